/** Compares answers with those that are due, and tells whether any was wrong. */
final class Check {
    private int calls = 0;
    private int wrong = 0;

    void due(String call, long want, long got) {
        calls++;
        if (got != want) {
            wrong++;
            System.out.println(call + " answered " + got + ", due is " + want);
        }
    }

    void due(String call, boolean want, boolean got) {
        due(call, want ? 1 : 0, got ? 1 : 0);
    }

    /** Ends the test: exit code 1 if an answer was wrong. */
    void finish() {
        System.out.println(calls + " answers, " + wrong + " wrong");
        if (wrong != 0 || calls == 0) {
            System.exit(1);
        }
    }

    /** Puts a text alone on the tape. */
    static void write(GrainDole dole, String text) {
        dole.end(0);
        for (int start = 0; start < text.length(); start += 20) {
            dole.feed(four(text, start), four(text, start + 4), four(text, start + 8),
                    four(text, start + 12), four(text, start + 16));
        }
        dole.end(text.length());
    }

    static int law(GrainDole dole, int month, String text) {
        write(dole, text);
        return dole.law(month);
    }

    /** What law answers to a fault of a kind at a place. */
    static int fault(int place, int kind) {
        return -2 - (1 + 8 * place + kind);
    }

    static void partTo(GrainDole dole, int month) {
        for (int now = dole.count(0); now < month; now++) {
            dole.part();
        }
    }

    private static int four(String text, int start) {
        int number = 0;
        for (int i = start; i < start + 4; i++) {
            number = number << 8 | (i < text.length() ? text.charAt(i) & 255 : 0);
        }
        return number;
    }
}
