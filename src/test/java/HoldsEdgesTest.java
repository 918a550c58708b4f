/** The edges of promise 5: which law holds, from which month on and as known from when. */
public final class HoldsEdgesTest {
    private static final Check CHECK = new Check();

    public static void main(String[] args) {
        monthsThatCanBeAsked();
        whatCanBeAsked();
        aLawHoldsFromItsMonth();
        aLawIsKnownFromWhenItWasTold();
        ofSeveralTheOneToldLast();
        aLaterMonthGoesAheadOfALaterTelling();
        theLatestMonthKnownThen();
        withoutALaw();
        wrongQuestionsChangeNothing();
        CHECK.finish();
    }

    private static void monthsThatCanBeAsked() {
        GrainDole dole = new GrainDole();
        Check.law(dole, 0, "share 9");
        for (int month = -2; month <= 121; month++) {
            int want = month >= 0 && month <= 119 ? 9 : -1;
            CHECK.due("holds in " + month, want, dole.holds(month, 0, 0));
            CHECK.due("holds as known in " + month, want, dole.holds(0, month, 0));
        }
        for (int month : Scenes.FAR) {
            CHECK.due("holds in " + month, -1, dole.holds(month, 0, 0));
            CHECK.due("holds as known in " + month, -1, dole.holds(0, month, 0));
        }
    }

    private static void whatCanBeAsked() {
        GrainDole dole = new GrainDole();
        Check.law(dole, 0, "share 1");
        Check.law(dole, 0, "share 9;spoil 8;damp 7;sale yes;back 6;premium 5;"
                + "rank 0 20;rank 1 21;rank 2 22;rank 3 23");
        int[] want = {9, 8, 7, 1, 6, 5, 1, -1, -1, -1, 20, 21, 22, 23};
        for (int what = -30; what <= 260; what++) {
            boolean is = what >= 0 && what < want.length;
            CHECK.due("what " + what, is ? want[what] : -1, dole.holds(0, 0, what));
        }
        for (int what : Scenes.FAR) {
            CHECK.due("what " + what, -1, dole.holds(0, 0, what));
        }
    }

    private static void aLawHoldsFromItsMonth() {
        int[] months = {0, 1, 60, 118, 119};
        for (int from : months) {
            GrainDole dole = new GrainDole();
            Check.law(dole, from, "share 9");
            for (int month = 0; month <= 119; month++) {
                CHECK.due("from " + from + " in " + month, month < from ? 5 : 9, dole.holds(month, 0, 0));
                CHECK.due("its number", month < from ? -1 : 0, dole.holds(month, 0, 6));
            }
        }
    }

    private static void aLawIsKnownFromWhenItWasTold() {
        int[] told = {0, 1, 60, 118, 119};
        for (int now : told) {
            GrainDole dole = new GrainDole();
            Check.partTo(dole, now);
            Check.law(dole, 0, "share 9");
            for (int known = 0; known <= 119; known++) {
                CHECK.due("told in " + now + ", as known in " + known, known < now ? 5 : 9, dole.holds(0, known, 0));
                CHECK.due("its number", known < now ? -1 : 0, dole.holds(119, known, 6));
            }
        }
    }

    private static void ofSeveralTheOneToldLast() {
        GrainDole dole = new GrainDole();
        for (int k = 0; k < Scenes.LAWS; k++) {
            Check.law(dole, 50, "share " + (k + 1));
            dole.part();
        }
        for (int known = 0; known <= 119; known++) {
            int want = Math.min(known, Scenes.LAWS - 1);
            CHECK.due("as known in " + known, want, dole.holds(50, known, 6));
            CHECK.due("share as known in " + known, want + 1, dole.holds(119, known, 0));
        }
        CHECK.due("ahead of all", -1, dole.holds(49, 119, 6));
    }

    private static void aLaterMonthGoesAheadOfALaterTelling() {
        GrainDole dole = new GrainDole();
        Check.law(dole, 50, "share 1");
        Check.law(dole, 49, "share 2");
        Check.law(dole, 51, "share 3");
        Check.law(dole, 0, "share 4");
        int[] want = {3, 1, 0, 2, 2};
        int[] months = {48, 49, 50, 51, 119};
        for (int k = 0; k < want.length; k++) {
            CHECK.due("in month " + months[k], want[k], dole.holds(months[k], 0, 6));
        }
    }

    private static void theLatestMonthKnownThen() {
        GrainDole dole = new GrainDole();
        Check.law(dole, 5, "share 1");
        Check.partTo(dole, 10);
        Check.law(dole, 8, "share 2");
        Check.partTo(dole, 20);
        Check.law(dole, 5, "share 3");
        int[][] rows = {{4, 119, -1}, {5, 9, 0}, {5, 19, 0}, {5, 20, 2}, {7, 10, 0}, {7, 20, 2}, {8, 9, 0},
            {8, 10, 1}, {8, 20, 1}, {119, 9, 0}, {119, 119, 1}};
        for (int[] row : rows) {
            CHECK.due("month " + row[0] + " as known in " + row[1], row[2], dole.holds(row[0], row[1], 6));
        }
    }

    private static void withoutALaw() {
        GrainDole dole = new GrainDole();
        Check.law(dole, 1, "share 9");
        int[] want = {5, 12, 6, 0, 100, 0, -1, -1, -1, -1, 100, 100, 100, 100, -1};
        for (int what = 0; what < want.length; what++) {
            CHECK.due("what " + what, want[what], dole.holds(0, 0, what));
        }
    }

    private static void wrongQuestionsChangeNothing() {
        Twins busy = new Twins(CHECK, Scenes::busy);
        busy.refused("holds in -1", dole -> dole.holds(-1, 0, 0));
        busy.refused("holds in 120", dole -> dole.holds(120, 0, 0));
        busy.refused("holds as known in -1", dole -> dole.holds(0, -1, 0));
        busy.refused("holds as known in 120", dole -> dole.holds(0, 120, 0));
        busy.refused("holds, what 7", dole -> dole.holds(0, 0, 7));
    }
}
