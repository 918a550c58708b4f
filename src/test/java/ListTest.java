import java.util.Arrays;

/** Promises 6 to 9: enter, isVoid, holder, rank. */
public final class ListTest {
    private static final Check CHECK = new Check();
    private static final int ENROLLED = 0;
    private static final int DIED = 1;
    private static final int SOLD = 2;
    private static final int STRUCK = 3;

    public static void main(String[] args) {
        entriesAreNumbered();
        entriesAreRefused();
        whatAKindHasNotIsOfNoMatter();
        enrolling();
        dying();
        selling();
        salesByTheLawOfTheEntrysMonth();
        salesByTheLawAsKnownThen();
        striking();
        lateLettersChangeEarlierMonths();
        monthsComeAheadOfNumbers();
        wrongQuestions();
        CHECK.finish();
    }

    private static void entriesAreNumbered() {
        GrainDole dole = new GrainDole();
        for (int k = 0; k < 150; k++) {
            CHECK.due("entry " + k, k, dole.enter(STRUCK, 0, k % 30, 0, 0));
        }
        CHECK.due("a 151st", -1, dole.enter(STRUCK, 0, 0, 0, 0));
        CHECK.due("entries", 150, dole.count(2));
        CHECK.due("the last is void", 1, dole.isVoid(149, 0));
        CHECK.due("no 151st", -1, dole.isVoid(150, 0));
    }

    private static void entriesAreRefused() {
        GrainDole dole = new GrainDole();
        Check.partTo(dole, 2);
        int[][] wrong = {
            {-1, 0, 0, 0, 0}, {4, 0, 0, 0, 0}, {0, -1, 0, 0, 0}, {0, 3, 0, 0, 0}, {0, 120, 0, 0, 0},
            {0, 0, -1, 0, 0}, {0, 0, 30, 0, 0}, {0, 0, 0, -1, 0}, {0, 0, 0, 100, 0}, {0, 0, 0, 0, -1}, {0, 0, 0, 0, 4},
            {1, 0, -1, 0, 0}, {1, 0, 100, 0, 0}, {2, 0, -1, 0, 0}, {2, 0, 30, 0, 0}, {2, 0, 0, -1, 0},
            {2, 0, 0, 100, 0},
            {3, 0, -1, 0, 0}, {3, 0, 30, 0, 0}, {Integer.MAX_VALUE, 0, 0, 0, 0}, {0, Integer.MIN_VALUE, 0, 0, 0},
        };
        for (int[] row : wrong) {
            CHECK.due("enter " + Arrays.toString(row), -1,
                    dole.enter(row[0], row[1], row[2], row[3], row[4]));
        }
        CHECK.due("entries", 0, dole.count(2));
        CHECK.due("edges", 0, dole.enter(ENROLLED, 2, 29, 99, 3));
        CHECK.due("edges", 1, dole.enter(DIED, 0, 99, 0, 0));
        CHECK.due("edges", 2, dole.enter(SOLD, 1, 29, 99, 0));
        CHECK.due("edges", 3, dole.enter(STRUCK, 2, 29, 0, 0));
        Check.partTo(dole, 119);
        CHECK.due("last month", 4, dole.enter(DIED, 119, 1, 0, 0));
        Check.partTo(dole, 120);
        CHECK.due("the end is come", -1, dole.enter(DIED, 0, 2, 0, 0));
        CHECK.due("of month 120", -1, dole.enter(DIED, 120, 2, 0, 0));
        CHECK.due("entries", 5, dole.count(2));
    }

    private static void whatAKindHasNotIsOfNoMatter() {
        GrainDole dole = new GrainDole();
        CHECK.due("sales", 0, Check.law(dole, 0, "sale yes"));
        CHECK.due("enrolled", 0, dole.enter(ENROLLED, 0, 4, 5, 2));
        CHECK.due("sold", 1, dole.enter(SOLD, 0, 4, 6, Integer.MIN_VALUE));
        CHECK.due("rank stays", 2, dole.rank(4, 0, 0));
        CHECK.due("struck", 2, dole.enter(STRUCK, 0, 4, -7, 999));
        CHECK.due("died", 3, dole.enter(DIED, 0, 99, -7, 999));
        for (int k = 0; k < 4; k++) {
            CHECK.due("void " + k, 0, dole.isVoid(k, 0));
        }
        CHECK.due("free", -1, dole.holder(4, 0, 0));
    }

    private static void enrolling() {
        GrainDole dole = new GrainDole();
        dole.enter(ENROLLED, 0, 3, 40, 2);
        dole.enter(ENROLLED, 0, 3, 41, 1);
        dole.enter(ENROLLED, 0, 4, 40, 1);
        dole.enter(ENROLLED, 0, 4, 41, 0);
        dole.enter(ENROLLED, 0, 3, 40, 0);
        int[] voids = {0, 1, 1, 0, 1};
        for (int k = 0; k < voids.length; k++) {
            CHECK.due("void " + k, voids[k], dole.isVoid(k, 0));
        }
        CHECK.due("holder", 40, dole.holder(3, 0, 0));
        CHECK.due("rank", 2, dole.rank(3, 0, 0));
        CHECK.due("holder", 41, dole.holder(4, 0, 0));
        CHECK.due("rank", 0, dole.rank(4, 0, 0));
        CHECK.due("later, too", 40, dole.holder(3, 119, 119));
        CHECK.due("free", -1, dole.holder(5, 0, 0));
        CHECK.due("free", -1, dole.rank(5, 0, 0));
    }

    private static void dying() {
        GrainDole dole = new GrainDole();
        dole.enter(ENROLLED, 0, 3, 40, 2);
        dole.enter(DIED, 0, 40, 0, 0);
        dole.enter(DIED, 0, 40, 0, 0);
        dole.enter(DIED, 0, 41, 0, 0);
        dole.enter(ENROLLED, 0, 3, 40, 2);
        dole.enter(ENROLLED, 0, 3, 41, 2);
        dole.enter(ENROLLED, 0, 3, 42, 1);
        int[] voids = {0, 0, 1, 0, 1, 1, 0};
        for (int k = 0; k < voids.length; k++) {
            CHECK.due("void " + k, voids[k], dole.isVoid(k, 0));
        }
        CHECK.due("holder", 42, dole.holder(3, 0, 0));
        CHECK.due("rank", 1, dole.rank(3, 0, 0));
    }

    private static void selling() {
        GrainDole dole = new GrainDole();
        Check.law(dole, 0, "sale yes");
        dole.enter(SOLD, 0, 3, 41, 0);
        dole.enter(ENROLLED, 0, 3, 40, 2);
        dole.enter(ENROLLED, 0, 4, 42, 1);
        dole.enter(DIED, 0, 50, 0, 0);
        dole.enter(SOLD, 0, 3, 40, 0);
        dole.enter(SOLD, 0, 3, 42, 0);
        dole.enter(SOLD, 0, 3, 50, 0);
        dole.enter(SOLD, 0, 3, 41, 0);
        dole.enter(ENROLLED, 0, 5, 40, 3);
        int[] voids = {1, 0, 0, 0, 1, 1, 1, 0, 0};
        for (int k = 0; k < voids.length; k++) {
            CHECK.due("void " + k, voids[k], dole.isVoid(k, 0));
        }
        CHECK.due("buyer", 41, dole.holder(3, 0, 0));
        CHECK.due("rank it had", 2, dole.rank(3, 0, 0));
        CHECK.due("seller elsewhere", 40, dole.holder(5, 0, 0));
    }

    private static void salesByTheLawOfTheEntrysMonth() {
        GrainDole dole = new GrainDole();
        Check.law(dole, 1, "sale yes");
        Check.law(dole, 2, "sale no");
        Check.partTo(dole, 3);
        dole.enter(ENROLLED, 0, 3, 40, 2);
        dole.enter(SOLD, 0, 3, 41, 0);
        dole.enter(SOLD, 1, 3, 42, 0);
        dole.enter(SOLD, 2, 3, 43, 0);
        int[] voids = {0, 1, 0, 1};
        for (int k = 0; k < voids.length; k++) {
            CHECK.due("void " + k, voids[k], dole.isVoid(k, 3));
        }
        CHECK.due("month 0", 40, dole.holder(3, 0, 3));
        CHECK.due("month 1", 42, dole.holder(3, 1, 3));
        CHECK.due("month 2", 42, dole.holder(3, 2, 3));
    }

    private static void salesByTheLawAsKnownThen() {
        GrainDole dole = new GrainDole();
        dole.enter(ENROLLED, 0, 3, 40, 2);
        dole.enter(SOLD, 0, 3, 41, 0);
        Check.partTo(dole, 2);
        Check.law(dole, 0, "sale yes");
        CHECK.due("as known in 0", 1, dole.isVoid(1, 0));
        CHECK.due("as known in 1", 1, dole.isVoid(1, 1));
        CHECK.due("as known in 2", 0, dole.isVoid(1, 2));
        CHECK.due("holder as known in 1", 40, dole.holder(3, 0, 1));
        CHECK.due("holder as known in 2", 41, dole.holder(3, 0, 2));
        CHECK.due("of a later month as known in 1", 40, dole.holder(3, 5, 1));
    }

    private static void striking() {
        GrainDole dole = new GrainDole();
        dole.enter(STRUCK, 0, 3, 0, 0);
        dole.enter(ENROLLED, 0, 3, 40, 2);
        dole.enter(STRUCK, 0, 3, 0, 0);
        dole.enter(STRUCK, 0, 3, 0, 0);
        dole.enter(ENROLLED, 0, 4, 40, 1);
        int[] voids = {1, 0, 0, 1, 0};
        for (int k = 0; k < voids.length; k++) {
            CHECK.due("void " + k, voids[k], dole.isVoid(k, 0));
        }
        CHECK.due("free", -1, dole.holder(3, 0, 0));
        CHECK.due("has another", 40, dole.holder(4, 0, 0));
    }

    private static void lateLettersChangeEarlierMonths() {
        GrainDole dole = new GrainDole();
        dole.enter(ENROLLED, 0, 3, 40, 2);
        Check.partTo(dole, 2);
        dole.enter(ENROLLED, 2, 3, 41, 1);
        Check.partTo(dole, 5);
        dole.enter(DIED, 1, 40, 0, 0);
        CHECK.due("not yet known", -1, dole.isVoid(2, 4));
        CHECK.due("known", 0, dole.isVoid(2, 5));
        CHECK.due("void as known in 2", 1, dole.isVoid(1, 2));
        CHECK.due("void as known in 4", 1, dole.isVoid(1, 4));
        CHECK.due("void as known in 5", 0, dole.isVoid(1, 5));
        CHECK.due("month 0", 40, dole.holder(3, 0, 5));
        CHECK.due("month 1", -1, dole.holder(3, 1, 5));
        CHECK.due("month 2", 41, dole.holder(3, 2, 5));
        CHECK.due("month 2 as known in 4", 40, dole.holder(3, 2, 4));
        CHECK.due("rank of month 2", 1, dole.rank(3, 2, 119));
        CHECK.due("rank of month 1", -1, dole.rank(3, 1, 5));
    }

    private static void monthsComeAheadOfNumbers() {
        GrainDole dole = new GrainDole();
        Check.partTo(dole, 4);
        dole.enter(ENROLLED, 3, 3, 40, 0);
        dole.enter(ENROLLED, 1, 3, 41, 1);
        dole.enter(ENROLLED, 2, 3, 42, 2);
        dole.enter(STRUCK, 2, 3, 0, 0);
        dole.enter(ENROLLED, 1, 3, 43, 3);
        int[] voids = {0, 0, 1, 0, 1};
        for (int k = 0; k < voids.length; k++) {
            CHECK.due("void " + k, voids[k], dole.isVoid(k, 4));
        }
        int[] holders = {-1, 41, -1, 40, 40};
        for (int month = 0; month < holders.length; month++) {
            CHECK.due("month " + month, holders[month], dole.holder(3, month, 4));
        }
    }

    private static void wrongQuestions() {
        GrainDole dole = new GrainDole();
        dole.enter(ENROLLED, 0, 0, 40, 2);
        int[] wrong = {-1, 120, Integer.MIN_VALUE, Integer.MAX_VALUE};
        for (int month : wrong) {
            CHECK.due("holder, month " + month, -1, dole.holder(0, month, 0));
            CHECK.due("holder, known " + month, -1, dole.holder(0, 0, month));
            CHECK.due("rank, month " + month, -1, dole.rank(0, month, 0));
            CHECK.due("rank, known " + month, -1, dole.rank(0, 0, month));
            CHECK.due("holder of place " + month, -1, dole.holder(month, 0, 0));
            CHECK.due("rank of place " + month, -1, dole.rank(month, 0, 0));
            CHECK.due("isVoid of " + month, -1, dole.isVoid(month, 0));
            CHECK.due("isVoid as known in " + month, -1, dole.isVoid(0, month));
        }
        CHECK.due("place 30", -1, dole.holder(30, 0, 0));
        CHECK.due("entry 1", -1, dole.isVoid(1, 0));
    }
}
