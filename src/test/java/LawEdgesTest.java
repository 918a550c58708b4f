/** The edges of promise 4 and of the texts of laws: limits, bytes, faults, as many as there can be. */
public final class LawEdgesTest {
    private static final Check CHECK = new Check();

    /** A clause with a number: its words ahead of that, its limits, what holds() calls it, and "without". */
    private record Clause(String words, int least, int most, int what, int without) { }

    private static final Clause[] CLAUSES = {
        new Clause("share", 1, 50, 0, 5),
        new Clause("rank 0", 0, 100, 10, 100),
        new Clause("rank 1", 0, 100, 11, 100),
        new Clause("rank 2", 0, 100, 12, 100),
        new Clause("rank 3", 0, 100, 13, 100),
        new Clause("spoil", 0, 60, 1, 12),
        new Clause("damp", 0, 60, 2, 6),
        new Clause("back", 0, 200, 4, 100),
        new Clause("premium", 0, 100, 5, 0),
    };

    public static void main(String[] args) {
        monthsOfALaw();
        lawsUpToEight();
        aRefusedLawEmptiesTheTapeAlone();
        aFaultEmptiesTheTapeAlone();
        lawsUpToTheEnd();
        numbersInTheirLimits();
        numbersOfFourDigits();
        numbersThatWouldWrapAround();
        numbersBelowNone();
        ranksFrom0To3();
        salesYesOrNo();
        whatIsNotToldIsAsWithout();
        textsOfNoClause();
        textsOf200Bytes();
        bytesAtTheBeginning();
        bytesInAWord();
        bytesForANumber();
        bytesBehindANumber();
        bytesBehindAWord();
        bytesBehindAMark();
        theEndTooSoon();
        whatCannotStandThere();
        clausesToldTwice();
        theFirstFaultAlongTheText();
        theLeastFaultOfOnePlace();
        CHECK.finish();
    }

    private static void taken(String text, int what, int want) {
        GrainDole dole = new GrainDole();
        CHECK.due("'" + text + "'", 0, Check.law(dole, 0, text));
        CHECK.due("'" + text + "' holds " + what, want, dole.holds(0, 0, what));
        CHECK.due("a law", 1, dole.count(1));
        CHECK.due("tape is empty then", 0, dole.count(5));
    }

    private static void faulty(String text, int place, int kind) {
        GrainDole dole = new GrainDole();
        CHECK.due("'" + text + "'", Check.fault(place, kind), Check.law(dole, 0, text));
        CHECK.due("no law of '" + text + "'", 0, dole.count(1));
        CHECK.due("no law holds", -1, dole.holds(119, 119, 6));
        CHECK.due("tape is empty then", 0, dole.count(5));
    }

    private static void monthsOfALaw() {
        for (int month = -2; month <= 121; month++) {
            GrainDole dole = new GrainDole();
            boolean is = month >= 0 && month <= 119;
            CHECK.due("law from " + month, is ? 0 : -1, Check.law(dole, month, "share 9"));
            CHECK.due("laws", is ? 1 : 0, dole.count(1));
            CHECK.due("tape is empty then", 0, dole.count(5));
        }
        int[] months = {0, 58, 59, 60, 61, 62, 119};
        for (int month : months) {
            GrainDole dole = new GrainDole();
            Check.partTo(dole, 60);
            CHECK.due("in month 60, law from " + month, 0, Check.law(dole, month, "share 9"));
            CHECK.due("it holds then", 9, dole.holds(month, 60, 0));
        }
    }

    private static void lawsUpToEight() {
        GrainDole dole = new GrainDole();
        for (int k = 0; k < Scenes.LAWS; k++) {
            CHECK.due("law " + k, k, Check.law(dole, 7, "share " + (10 + k)));
            CHECK.due("laws", k + 1, dole.count(1));
            CHECK.due("the one told last", k, dole.holds(7, 0, 6));
        }
        CHECK.due("a ninth", -1, Check.law(dole, 7, "share 20"));
        CHECK.due("laws", Scenes.LAWS, dole.count(1));
        CHECK.due("the eighth holds", 17, dole.holds(7, 0, 0));
        CHECK.due("tape is empty then", 0, dole.count(5));
    }

    private static void aRefusedLawEmptiesTheTapeAlone() {
        Twins busy = new Twins(CHECK, Scenes::busy);
        int[] wrong = {-1, -2, 120, 121};
        for (int month : wrong) {
            busy.sameAs("law from " + month, -1, dole -> dole.law(month), dole -> dole.end(0));
        }
        for (int month : Scenes.FAR) {
            busy.sameAs("law from " + month, -1, dole -> dole.law(month), dole -> dole.end(0));
        }
        new Twins(CHECK, Scenes::full).sameAs("a ninth law", -1, dole -> dole.law(0), dole -> dole.end(0));
        new Twins(CHECK, Scenes::over).sameAs("law at the end", -1, dole -> dole.law(119), dole -> dole.end(0));
    }

    private static void aFaultEmptiesTheTapeAlone() {
        Twins busy = new Twins(CHECK, Scenes::busy);
        int[] places = {1, 5, 6, 8, 14};
        int[] faults = {Check.fault(0, 0), Check.fault(5, 0), Check.fault(6, 0), Check.fault(8, 0),
            Check.fault(14, 0)};
        for (int k = 0; k < places.length; k++) {
            int n = places[k];
            busy.sameAs("the first " + n + " bytes of a law", faults[k], dole -> {
                dole.end(n);
                return dole.law(0);
            }, dole -> dole.end(0));
        }
    }

    private static void lawsUpToTheEnd() {
        GrainDole dole = new GrainDole();
        Check.partTo(dole, Scenes.LAST_MONTH);
        CHECK.due("in month 119", 0, Check.law(dole, 119, "share 9"));
        dole.part();
        CHECK.due("at the end", -1, Check.law(dole, 119, "share 8"));
        CHECK.due("tape is empty then", 0, dole.count(5));
        CHECK.due("laws", 1, dole.count(1));
        CHECK.due("share", 9, dole.holds(119, 119, 0));
    }

    private static void numbersInTheirLimits() {
        for (Clause clause : CLAUSES) {
            for (int n = 0; n <= 260; n++) {
                number(clause, n);
            }
            int[] high = {300, 306, 512, 999, 1000, 1001, 2000, 5000, 9999};
            for (int n : high) {
                number(clause, n);
            }
        }
    }

    private static void number(Clause clause, int n) {
        String text = clause.words + " " + n;
        if (n >= clause.least && n <= clause.most) {
            taken(text, clause.what, n);
        } else {
            faulty(text, clause.words.length() + 1, 1);
        }
    }

    private static void numbersOfFourDigits() {
        for (Clause clause : CLAUSES) {
            int place = clause.words.length() + 1;
            for (int n = clause.least; n <= clause.most; n++) {
                taken(clause.words + " " + digits(n, 4), clause.what, n);
            }
            int[] edges = {clause.least, clause.most, 5};
            for (int n : edges) {
                faulty(clause.words + " " + digits(n, 5), place, 1);
                faulty(clause.words + " " + digits(n, 12), place, 1);
                faulty(clause.words + " " + digits(n, 200 - place), place, 1);
                faulty(clause.words + " " + n + "0000", place, 1);
            }
        }
    }

    private static String digits(int n, int length) {
        String told = String.valueOf(n);
        return "0".repeat(length - told.length()) + told;
    }

    private static void numbersThatWouldWrapAround() {
        String[] numbers = {"4294967301", "18446744073709551621", "65541", "261", "10005", "100000005",
            "2147483648", "2147483647", "99999999999999999999999999999999999999"};
        for (Clause clause : CLAUSES) {
            for (String number : numbers) {
                faulty(clause.words + " " + number, clause.words.length() + 1, 1);
            }
        }
        faulty("rank 4294967297 5", 5, 1);
        faulty("rank 256 5", 5, 1);
        faulty("rank 257 5", 5, 1);
    }

    private static void numbersBelowNone() {
        for (Clause clause : CLAUSES) {
            faulty(clause.words + " -1", clause.words.length() + 1, 0);
            faulty(clause.words + " +1", clause.words.length() + 1, 0);
        }
        faulty("rank -1 5", 5, 0);
    }

    private static void ranksFrom0To3() {
        for (int r = 0; r <= 3; r++) {
            for (int other = 0; other <= 3; other++) {
                taken("rank " + r + " 7", 10 + other, r == other ? 7 : 100);
                taken("rank " + digits(r, 4) + " 7", 10 + other, r == other ? 7 : 100);
            }
            faulty("rank " + digits(r, 5) + " 7", 5, 1);
        }
        for (int r = 4; r <= 20; r++) {
            faulty("rank " + r + " 7", 5, 1);
        }
        faulty("rank 9999 7", 5, 1);
    }

    private static void salesYesOrNo() {
        taken("sale yes", 3, 1);
        taken("sale no", 3, 0);
        String[] wrong = {"y", "ye", "yesy", "yess", "n", "noo", "on", "say", "yesno", "noyes", "sale", "Yes", "0", "1"};
        for (String word : wrong) {
            faulty("sale " + word, 5, 0);
        }
        faulty("sale yEs", 5, 0);
        faulty("sale nO", 5, 0);
    }

    private static void whatIsNotToldIsAsWithout() {
        for (Clause told : CLAUSES) {
            for (Clause other : CLAUSES) {
                taken(told.words + " 7", other.what, told == other ? 7 : other.without);
            }
            taken(told.words + " 7", 3, 0);
            taken("sale yes", told.what, told.without);
            taken("  ", told.what, told.without);
        }
    }

    private static void textsOfNoClause() {
        for (int n = 0; n <= 200; n++) {
            taken(" ".repeat(n), 0, 5);
        }
        GrainDole dole = new GrainDole();
        Check.law(dole, 0, "share 9; sale yes");
        CHECK.due("a law without clauses", 1, Check.law(dole, 3, "   "));
        CHECK.due("holds from then on", 5, dole.holds(3, 0, 0));
        CHECK.due("and lets no sales", 0, dole.holds(3, 0, 3));
        CHECK.due("not ahead of it", 9, dole.holds(2, 0, 0));
    }

    private static void textsOf200Bytes() {
        taken(Scenes.textOf200(), 0, 42);
        taken("share 42" + " ".repeat(192), 0, 42);
        taken("share" + " ".repeat(193) + "42", 0, 42);
        faulty(" ".repeat(199) + ";", 199, 0);
        faulty(" ".repeat(198) + "sh", 198, 0);
        faulty("share" + " ".repeat(195), 200, 0);
        faulty("share 5" + " ".repeat(192) + ";", 200, 0);
        faulty(" ".repeat(195) + "share", 200, 0);
        faulty("share" + " ".repeat(194) + "0", 199, 1);
        faulty("share 1;" + " ".repeat(187) + "share", 195, 2);
        faulty("rank 1 1;rank" + " ".repeat(186) + "1", 199, 2);
        taken("rank 0 1;rank" + " ".repeat(184) + "1 2", 11, 2);
    }

    private static boolean isLetter(int b) {
        return b >= 'a' && b <= 'z';
    }

    private static boolean isDigit(int b) {
        return b >= '0' && b <= '9';
    }

    private static void bytesAtTheBeginning() {
        for (int b = 0; b <= 255; b++) {
            if (b == ' ') {
                taken((char) b + "share 8", 0, 8);
            } else {
                faulty((char) b + "share 8", 0, 0);
            }
        }
    }

    private static void bytesInAWord() {
        for (int b = 0; b <= 255; b++) {
            if (b == 'e') {
                taken("shar" + (char) b + " 8", 0, 8);
            } else {
                faulty("shar" + (char) b + " 8", 0, 0);
            }
            if (b != 'd') {
                faulty((char) b + "amp 8", b == ' ' ? 1 : 0, 0);
            }
        }
    }

    private static void bytesForANumber() {
        for (int b = 0; b <= 255; b++) {
            if (isDigit(b) && b != '0') {
                taken("share " + (char) b, 0, b - '0');
                taken("share 1" + (char) b, 0, 10 + b - '0');
            } else if (b == ' ') {
                faulty("share " + (char) b, 7, 0);
            } else {
                faulty("share " + (char) b, 6, b == '0' ? 1 : 0);
            }
        }
    }

    private static void bytesBehindANumber() {
        for (int b = 0; b <= 255; b++) {
            String text = "share 4" + (char) b;
            if (b == ' ') {
                taken(text, 0, 4);
            } else if (isDigit(b)) {
                taken(text, 0, 40 + b - '0');
            } else {
                faulty(text, b == ';' ? 8 : 7, 0);
            }
            if (b != ' ') {
                faulty("share 4 " + (char) b, b == ';' ? 9 : 8, 0);
            }
        }
    }

    private static void bytesBehindAWord() {
        for (int b = 0; b <= 255; b++) {
            String text = "sale yes" + (char) b;
            if (b == ' ') {
                taken(text, 3, 1);
            } else {
                faulty(text, isLetter(b) ? 5 : b == ';' ? 9 : 8, 0);
            }
        }
    }

    private static void bytesBehindAMark() {
        for (int b = 0; b <= 255; b++) {
            faulty("share 4;" + (char) b, b == ' ' ? 9 : 8, 0);
        }
        taken("share 4;spoil 3", 1, 3);
        taken("share 4 ; spoil 3", 1, 3);
        taken("share 4   ;   spoil 3   ", 1, 3);
    }

    private static void theEndTooSoon() {
        String[] texts = {"share", "rank", "rank 1", "spoil", "damp", "sale", "back", "premium", "share 5;",
            "rank 1 5;", "sale no;", "share 5;rank", "share 5;rank 0", "share 5;sale"};
        for (String text : texts) {
            for (int blanks = 0; blanks <= 3; blanks++) {
                faulty(text + " ".repeat(blanks), text.length() + blanks, 0);
                faulty(" ".repeat(blanks) + text, text.length() + blanks, 0);
            }
        }
    }

    private static void whatCannotStandThere() {
        String[] starts = {"", "  ", "share 5;", "share 5; "};
        for (String start : starts) {
            String[] wrong = {"5", "0", "12345", "yes", "no", "a", "shares", "rankk 1 5", ";", "?", "Share 5"};
            for (String next : wrong) {
                faulty(start + next, start.length(), 0);
            }
        }
        for (Clause clause : CLAUSES) {
            String start = clause.words + " ";
            String[] wrong = {"x", "yes", "share", ";", ";5", "?", "-5", ".5"};
            for (String next : wrong) {
                faulty(start + next, start.length(), 0);
            }
            String whole = clause.words + " 5 ";
            String[] behind = {"5", "12345", "x", "share", "?", ",", ":"};
            for (String next : behind) {
                faulty(whole + next, whole.length(), 0);
            }
        }
        faulty("rank x 5", 5, 0);
        faulty("rank;0 5", 4, 0);
        faulty("sale;yes", 4, 0);
        faulty("sale yes 5", 9, 0);
        faulty("sale no yes", 8, 0);
    }

    private static void clausesToldTwice() {
        for (Clause first : CLAUSES) {
            String start = first.words + " 5;sale no;";
            for (Clause other : CLAUSES) {
                if (first != other) {
                    taken(start + other.words + " 9", other.what, 9);
                } else {
                    boolean ofRank = first.words.length() == 6 && first.words.charAt(0) == 'r';
                    faulty(start + first.words + " 5", start.length() + (ofRank ? 5 : 0), 2);
                    faulty(start + "  " + first.words + " 7", start.length() + 2 + (ofRank ? 5 : 0), 2);
                }
            }
            faulty(start + "sale yes", start.length(), 2);
        }
        faulty("rank 3 5;rank 0003 5", 14, 2);
        faulty("rank 0003 5;rank 3 5", 17, 2);
        faulty("share 5;share 5;share 5", 8, 2);
        String all = "share 1;rank 0 1;rank 1 1;rank 2 1;rank 3 1;spoil 1;damp 1;sale yes;back 1;premium 1";
        taken(all, 5, 1);
        faulty(all + ";rank 4 1", all.length() + 6, 1);
        faulty(all + ";sale no", all.length() + 1, 2);
    }

    private static void theFirstFaultAlongTheText() {
        faulty("share 99;x", 6, 1);
        faulty("share 99 x", 6, 1);
        faulty("share 5;x;share 99", 8, 0);
        faulty("share 5;share 99", 8, 2);
        faulty("share 5;share", 8, 2);
        faulty("share 5;share x", 8, 2);
        faulty("share 5;share;", 8, 2);
        faulty("sale no;sale", 8, 2);
        faulty("sale no;sale 5", 8, 2);
        faulty("rank 1 5;rank 1", 14, 2);
        faulty("rank 1 5;rank 1 101", 14, 2);
        faulty("rank 1 5;rank 1 x", 14, 2);
        faulty("rank 1 5;rank", 13, 0);
        faulty("rank 1 5;rank x", 14, 0);
        faulty("rank 4 101", 5, 1);
        faulty("rank 4 x", 5, 1);
        faulty("rank 4", 5, 1);
        faulty("rank 1 101;rank 1 5", 7, 1);
    }

    private static void theLeastFaultOfOnePlace() {
        faulty("rank 1 5;rank 00001 5", 14, 1);
        faulty("rank 0 5;rank 0000000 5", 14, 1);
        faulty("12345", 0, 0);
        faulty("share 5 12345", 8, 0);
        faulty("share 5;99999", 8, 0);
        faulty("sale 12345", 5, 0);
    }
}
