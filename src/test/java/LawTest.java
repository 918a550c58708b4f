/** Promises 2 to 5: feed, end, law, holds. */
public final class LawTest {
    private static final Check CHECK = new Check();
    private static final int FULL = 8;

    public static void main(String[] args) {
        tapeIsFedAndCut();
        bytesComeHighestFirst();
        valuesAreRead();
        blanksAreOfNoMatter();
        wordsAndBytesThatCannotStand();
        numbersNotAsTold();
        clausesToldTwice();
        firstFaultCounts();
        lawsAreRefused();
        faultyLawsDoNotCount();
        latestMonthHolds();
        knownFromNowOn();
        wrongQuestions();
        tapeAtTheEnd();
        CHECK.finish();
    }

    private static void tapeIsFedAndCut() {
        GrainDole dole = new GrainDole();
        CHECK.due("end 0 of an empty tape", 0, dole.end(0));
        CHECK.due("end 1 of an empty tape", -1, dole.end(1));
        for (int n = 20; n <= 200; n += 20) {
            CHECK.due("feed", n, dole.feed(0, 0, 0, 0, 0));
        }
        CHECK.due("feed beyond 200", -1, dole.feed(0, 0, 0, 0, 0));
        CHECK.due("nothing came", 200, dole.count(5));
        CHECK.due("end 201", -1, dole.end(201));
        CHECK.due("end 200", 200, dole.end(200));
        CHECK.due("end 181", 181, dole.end(181));
        CHECK.due("feed to 201", -1, dole.feed(0, 0, 0, 0, 0));
        CHECK.due("end 182", -1, dole.end(182));
        CHECK.due("end -1", -1, dole.end(-1));
        CHECK.due("end least", -1, dole.end(Integer.MIN_VALUE));
        CHECK.due("end most", -1, dole.end(Integer.MAX_VALUE));
        CHECK.due("nothing happened", 181, dole.count(5));
        CHECK.due("end 180", 180, dole.end(180));
        CHECK.due("feed to 200", 200, dole.feed(0, 0, 0, 0, 0));
        CHECK.due("end 0", 0, dole.end(0));
        CHECK.due("empty", 0, dole.count(5));
    }

    private static void bytesComeHighestFirst() {
        GrainDole dole = new GrainDole();
        CHECK.due("feed", 20, dole.feed(0x73686172, 0x65203720, 0x20202020, 0x20202020, 0x20202020));
        CHECK.due("law", 0, dole.law(0));
        CHECK.due("share", 7, dole.holds(0, 0, 0));
        CHECK.due("tape is empty then", 0, dole.count(5));
        dole.feed(0x20202020, 0x20202020, 0x20202020, 0x20202020, 0x202020ff);
        CHECK.due("byte 255", Check.fault(19, 0), dole.law(0));
    }

    private static void valuesAreRead() {
        GrainDole dole = new GrainDole();
        String text = "share 10; rank 0 100;rank 1 50; rank 2 0; spoil 2; damp 1; sale yes; back 50; premium 10";
        CHECK.due("law", 0, Check.law(dole, 0, text));
        int[] want = {10, 2, 1, 1, 50, 10, 0, -1, -1, -1, 100, 50, 0, 100, -1};
        for (int what = 0; what < want.length; what++) {
            CHECK.due("holds " + what, want[what], dole.holds(0, 0, what));
        }
        CHECK.due("edges below", 1, Check.law(dole, 1,
                "share 1;rank 3 0;spoil 0;damp 0;sale no;back 0;premium 0"));
        int[] least = {1, 0, 0, 0, 0, 0, 1, -1, -1, -1, 100, 100, 100, 0};
        for (int what = 0; what < least.length; what++) {
            CHECK.due("holds least " + what, least[what], dole.holds(1, 0, what));
        }
        CHECK.due("edges above", 2, Check.law(dole, 2,
                "share 50;rank 3 100;spoil 60;damp 60;sale yes;back 200;premium 100"));
        int[] most = {50, 60, 60, 1, 200, 100, 2, -1, -1, -1, 100, 100, 100, 100};
        for (int what = 0; what < most.length; what++) {
            CHECK.due("holds most " + what, most[what], dole.holds(2, 0, what));
        }
    }

    private static void blanksAreOfNoMatter() {
        GrainDole dole = new GrainDole();
        CHECK.due("no byte", 0, dole.law(0));
        CHECK.due("as without", 5, dole.holds(0, 0, 0));
        CHECK.due("blanks alone", 1, Check.law(dole, 0, "   "));
        CHECK.due("the later one", 1, dole.holds(0, 0, 6));
        CHECK.due("around", 2, Check.law(dole, 0, "  share   0009  ;  rank  2   7 "));
        CHECK.due("share", 9, dole.holds(0, 0, 0));
        CHECK.due("rank 2", 7, dole.holds(0, 0, 12));
        CHECK.due("none around", 3, Check.law(dole, 0, "share8;rank1 6"));
        CHECK.due("share", 8, dole.holds(0, 0, 0));
        CHECK.due("rank 1", 6, dole.holds(0, 0, 11));
        StringBuilder text = new StringBuilder("share 3");
        while (text.length() < 200) {
            text.append(' ');
        }
        CHECK.due("of 200 bytes", 4, Check.law(dole, 0, text.toString()));
    }

    private static void faultIs(String text, int place, int kind) {
        GrainDole dole = new GrainDole();
        CHECK.due("'" + text + "'", Check.fault(place, kind), Check.law(dole, 0, text));
        CHECK.due("tape is empty then", 0, dole.count(5));
        CHECK.due("no law", 0, dole.count(1));
    }

    private static void wordsAndBytesThatCannotStand() {
        faultIs("shares 5", 0, 0);
        faultIs("shar 5", 0, 0);
        faultIs("shAre 5", 0, 0);
        faultIs("  Share 5", 2, 0);
        faultIs("5", 0, 0);
        faultIs("55555 5", 0, 0);
        faultIs(";", 0, 0);
        faultIs(" ; share 5", 1, 0);
        faultIs("share", 5, 0);
        faultIs("share  ", 7, 0);
        faultIs("share x", 6, 0);
        faultIs("share\0", 5, 0);
        faultIs("share;5", 5, 0);
        faultIs("share -5", 6, 0);
        faultIs("share 5;", 8, 0);
        faultIs("share 5;  ", 10, 0);
        faultIs("share 5;;", 8, 0);
        faultIs("share 5 6", 8, 0);
        faultIs("share 5x", 7, 0);
        faultIs("share 5 share 6", 8, 0);
        faultIs("share 5\t", 7, 0);
        faultIs("share 5; 12345", 9, 0);
        faultIs("rank", 4, 0);
        faultIs("rank x", 5, 0);
        faultIs("rank 1", 6, 0);
        faultIs("rank 1 ", 7, 0);
        faultIs("rank 1 x", 7, 0);
        faultIs("rank 1;", 6, 0);
        faultIs("sale", 4, 0);
        faultIs("sale maybe", 5, 0);
        faultIs("sale 1", 5, 0);
        faultIs("sale yesno", 5, 0);
        faultIs("sale yes no", 9, 0);
        faultIs("saleyes", 0, 0);
        faultIs("sale n", 5, 0);
        faultIs("yes", 0, 0);
        faultIs("premiums 3", 0, 0);
    }

    private static void numbersNotAsTold() {
        faultIs("share 0", 6, 1);
        faultIs("share 51", 6, 1);
        faultIs("share 00005", 6, 1);
        faultIs("share   99999999999999", 8, 1);
        faultIs("share 4294967301", 6, 1);
        faultIs("rank 4 5", 5, 1);
        faultIs("rank 00001 5", 5, 1);
        faultIs("rank 0100", 5, 1);
        faultIs("rank 1 101", 7, 1);
        faultIs("rank 1 00001", 7, 1);
        faultIs("spoil 61", 6, 1);
        faultIs("damp 61", 5, 1);
        faultIs("back 201", 5, 1);
        faultIs("premium 101", 8, 1);
    }

    private static void clausesToldTwice() {
        faultIs("share 5;share 6", 8, 2);
        faultIs("share 5; share", 9, 2);
        faultIs("rank 1 5;rank 1 6", 14, 2);
        faultIs("rank 1 5;rank  0001", 15, 2);
        faultIs("sale no;sale x", 8, 2);
        faultIs("spoil 1;damp 1;back 1;spoil 1", 22, 2);
        faultIs("damp 1;damp 1", 7, 2);
        faultIs("back 1;back 1", 7, 2);
        faultIs("premium 1;premium 1", 10, 2);
        GrainDole dole = new GrainDole();
        CHECK.due("other ranks", 0, Check.law(dole, 0, "rank 1 5;rank 2 6;rank 0 7;rank 3 8"));
        CHECK.due("rank 0", 7, dole.holds(0, 0, 10));
        CHECK.due("rank 3", 8, dole.holds(0, 0, 13));
    }

    private static void firstFaultCounts() {
        faultIs("share 51x; foo", 6, 1);
        faultIs("share 5;share 0", 8, 2);
        faultIs("rank 1 5;rank 1 999;x", 14, 2);
        faultIs("rank 9 999", 5, 1);
        faultIs("x share 5;share 5", 0, 0);
    }

    private static void lawsAreRefused() {
        GrainDole dole = new GrainDole();
        Check.write(dole, "share 7");
        CHECK.due("month -1", -1, dole.law(-1));
        CHECK.due("tape is empty then, too", 0, dole.count(5));
        Check.write(dole, "share 7");
        CHECK.due("month 120", -1, dole.law(120));
        CHECK.due("tape is empty then, too", 0, dole.count(5));
        for (int k = 0; k < FULL; k++) {
            CHECK.due("law " + k, k, Check.law(dole, 119 - k, "share 8"));
        }
        Check.write(dole, "share 9");
        CHECK.due("a ninth", -1, dole.law(0));
        CHECK.due("tape is empty then, too", 0, dole.count(5));
        CHECK.due("laws", FULL, dole.count(1));
    }

    private static void faultyLawsDoNotCount() {
        GrainDole dole = new GrainDole();
        for (int k = 0; k < 2 * FULL; k++) {
            CHECK.due("faulty", Check.fault(0, 0), Check.law(dole, 0, "?"));
        }
        CHECK.due("laws", 0, dole.count(1));
        CHECK.due("first", 0, Check.law(dole, 0, "share 8"));
        CHECK.due("faulty", Check.fault(14, 1), Check.law(dole, 0, "share 9; back 900"));
        CHECK.due("share", 8, dole.holds(0, 0, 0));
        Check.law(dole, 0, "spoil 3");
        CHECK.due("nothing of another text stays", 5, dole.holds(0, 0, 0));
    }

    private static void latestMonthHolds() {
        GrainDole dole = new GrainDole();
        Check.law(dole, 10, "share 10");
        Check.law(dole, 5, "share 6; sale yes");
        Check.law(dole, 10, "share 11");
        Check.law(dole, 20, "sale yes");
        CHECK.due("ahead of all", -1, dole.holds(4, 0, 6));
        CHECK.due("ahead of all", 5, dole.holds(4, 0, 0));
        CHECK.due("from 5 on", 1, dole.holds(5, 0, 6));
        CHECK.due("up to 9", 6, dole.holds(9, 0, 0));
        CHECK.due("told last of month 10", 2, dole.holds(10, 0, 6));
        CHECK.due("a clause of an older law is none", 0, dole.holds(19, 0, 3));
        CHECK.due("as without", 5, dole.holds(20, 0, 0));
        CHECK.due("to the end", 3, dole.holds(119, 0, 6));
        Check.law(dole, 19, "share 30");
        CHECK.due("told last, but of an earlier month", 3, dole.holds(20, 0, 6));
    }

    private static void knownFromNowOn() {
        GrainDole dole = new GrainDole();
        Check.law(dole, 2, "share 10");
        Check.partTo(dole, 3);
        Check.law(dole, 0, "share 20");
        Check.law(dole, 2, "share 21");
        CHECK.due("not yet known", -1, dole.holds(1, 2, 6));
        CHECK.due("known", 1, dole.holds(1, 3, 6));
        CHECK.due("known ahead", 1, dole.holds(1, 119, 6));
        CHECK.due("of month 2 as known in 2", 10, dole.holds(2, 2, 0));
        CHECK.due("of month 2 as known in 3", 21, dole.holds(2, 3, 0));
        CHECK.due("of month 2 as known in 0", 10, dole.holds(2, 0, 0));
    }

    private static void wrongQuestions() {
        GrainDole dole = new GrainDole();
        Check.law(dole, 0, "share 10");
        int[] wrong = {-1, 120, Integer.MIN_VALUE, Integer.MAX_VALUE};
        for (int month : wrong) {
            CHECK.due("month " + month, -1, dole.holds(month, 0, 0));
            CHECK.due("known " + month, -1, dole.holds(0, month, 0));
        }
        int[] whats = {-1, 7, 8, 9, 14, 16, Integer.MIN_VALUE, Integer.MAX_VALUE};
        for (int what : whats) {
            CHECK.due("what " + what, -1, dole.holds(0, 0, what));
        }
    }

    private static void tapeAtTheEnd() {
        GrainDole dole = new GrainDole();
        Check.law(dole, 119, "share 10");
        Check.partTo(dole, 119);
        CHECK.due("in the last month", 1, Check.law(dole, 119, "share 11"));
        Check.partTo(dole, 120);
        Check.write(dole, "share 12");
        CHECK.due("the end is come", -1, dole.law(119));
        CHECK.due("tape is empty then, too", 0, dole.count(5));
        CHECK.due("laws", 2, dole.count(1));
        CHECK.due("holds still", 11, dole.holds(119, 119, 0));
        CHECK.due("no month 120", -1, dole.holds(119, 120, 0));
    }
}
