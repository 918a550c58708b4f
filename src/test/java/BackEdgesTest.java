/** The edges of promise 22: back. */
public final class BackEdgesTest {
    private static final Check CHECK = new Check();

    public static void main(String[] args) {
        citizensFrom0To99();
        hundredthsFrom0To200();
        downwardsMonthByMonth();
        fromTheMonthOfTheLetter();
        onlyForThePlaceHeNoMoreHolds();
        nothingWasGiven();
        asKnownNow();
        byTheLawOfThatMonth();
        atTheEnd();
        wrongQuestionsChangeNothing();
        CHECK.finish();
    }

    /** Citizen 7 holds place 3; he comes in each of so many months, and corn is there for all of them. */
    private static GrainDole cameIn(int months, String law) {
        GrainDole dole = new GrainDole();
        if (!law.isEmpty()) {
            Check.law(dole, 0, law);
        }
        dole.enter(0, 0, 3, 7, 0);
        dole.ship(3000, 119);
        for (int m = 0; m < months; m++) {
            dole.land(0, 0, 50, false);
            dole.show(3, 0, 0);
            dole.part();
        }
        return dole;
    }

    private static void citizensFrom0To99() {
        for (int citizen = 0; citizen < 100; citizen += 33) {
            GrainDole dole = new GrainDole();
            dole.enter(0, 0, 3, citizen, 0);
            dole.ship(10, 0);
            dole.land(0, 0, 10, false);
            dole.show(3, 0, 0);
            dole.part();
            CHECK.due("nothing yet", 0, dole.back(citizen));
            dole.enter(3, 0, 3, 0, 0);
            for (int other = -40; other <= 140; other++) {
                boolean is = other >= 0 && other < 100;
                CHECK.due("back " + other, other == citizen ? 5 : is ? 0 : -1, dole.back(other));
            }
            for (int other : Scenes.FAR) {
                CHECK.due("back " + other, -1, dole.back(other));
            }
        }
    }

    private static void hundredthsFrom0To200() {
        int[][] rows = {{1, 0, 0}, {1, 1, 0}, {1, 99, 0}, {1, 100, 1}, {1, 101, 1}, {1, 199, 1}, {1, 200, 2}, {3, 33, 0},
            {3, 34, 1}, {3, 66, 1}, {3, 67, 2}, {50, 1, 0}, {50, 2, 1}, {50, 199, 99}, {50, 200, 100}, {50, 0, 0}};
        for (int[] row : rows) {
            GrainDole dole = cameIn(1, "share " + row[0] + ";back " + row[1]);
            dole.enter(1, 0, 7, 0, 0);
            CHECK.due(row[1] + " hundredths of " + row[0], row[2], dole.back(7));
        }
    }

    private static void downwardsMonthByMonth() {
        GrainDole dole = cameIn(4, "share 1;back 50");
        dole.enter(1, 0, 7, 0, 0);
        CHECK.due("four times half of 1", 0, dole.back(7));
        dole = cameIn(4, "share 3;back 50");
        dole.enter(1, 0, 7, 0, 0);
        CHECK.due("four times half of 3", 4, dole.back(7));
        dole = new GrainDole();
        Check.law(dole, 0, "share 3;back 50");
        dole.enter(0, 0, 3, 7, 0);
        dole.ship(3, 0);
        for (int k = 0; k < 3; k++) {
            dole.land(0, 0, 1, false);
        }
        dole.show(3, 0, 0);
        dole.part();
        dole.enter(1, 0, 7, 0, 0);
        CHECK.due("half of 3 out of three lots", 1, dole.back(7));
        dole = cameIn(12, "share 50;back 200");
        dole.enter(1, 0, 7, 0, 0);
        CHECK.due("twelve times twice 50", 1200, dole.back(7));
    }

    private static void fromTheMonthOfTheLetter() {
        for (int month = 0; month <= 5; month++) {
            GrainDole dole = cameIn(5, "");
            dole.enter(3, month, 3, 0, 0);
            CHECK.due("struck in " + month, 5 * (5 - month), dole.back(7));
        }
        GrainDole dole = cameIn(5, "");
        dole.enter(3, 1, 3, 0, 0);
        dole.enter(0, 3, 3, 7, 0);
        CHECK.due("struck in 1, enrolled again in 3", 10, dole.back(7));
    }

    private static void onlyForThePlaceHeNoMoreHolds() {
        GrainDole dole = cameIn(2, "");
        dole.enter(3, 1, 3, 0, 0);
        dole.enter(0, 1, 4, 7, 0);
        CHECK.due("he holds another", 5, dole.back(7));
        dole.enter(0, 1, 3, 8, 0);
        CHECK.due("and another his", 5, dole.back(7));
        CHECK.due("who was given nothing for it", 0, dole.back(8));
        dole = cameIn(2, "");
        dole.enter(3, 1, 3, 0, 0);
        dole.enter(0, 1, 3, 7, 3);
        CHECK.due("he holds it with another rank", 0, dole.back(7));
    }

    private static void nothingWasGiven() {
        GrainDole dole = new GrainDole();
        for (int citizen = 0; citizen < 100; citizen++) {
            CHECK.due("in a new object", 0, dole.back(citizen));
        }
        dole.enter(0, 0, 3, 7, 0);
        dole.show(3, 0, 0);
        dole.part();
        dole.enter(1, 0, 7, 0, 0);
        CHECK.due("there was no corn", 0, dole.back(7));
        dole = cameIn(1, "");
        dole.part();
        dole.enter(1, 1, 7, 0, 0);
        CHECK.due("he did not come in that month", 0, dole.back(7));
    }

    private static void asKnownNow() {
        GrainDole dole = cameIn(2, "");
        CHECK.due("nothing is known", 0, dole.back(7));
        dole.enter(3, 1, 3, 0, 0);
        CHECK.due("a letter just told", 5, dole.back(7));
        dole.enter(3, 0, 3, 0, 0);
        CHECK.due("another", 10, dole.back(7));
        dole.enter(0, 0, 3, 7, 0);
        CHECK.due("of the first month alone he holds it again, then was struck", 5, dole.back(7));
    }

    private static void byTheLawOfThatMonth() {
        GrainDole dole = new GrainDole();
        Check.law(dole, 1, "back 20");
        Check.law(dole, 2, "back 200");
        dole.enter(0, 0, 3, 7, 0);
        dole.ship(100, 119);
        dole.land(0, 0, 100, false);
        for (int m = 0; m < 3; m++) {
            dole.show(3, 0, 0);
            dole.part();
        }
        dole.enter(1, 0, 7, 0, 0);
        CHECK.due("5, 1 and 10", 16, dole.back(7));
        Check.law(dole, 3, "back 0");
        CHECK.due("a law of a later month is of no matter", 16, dole.back(7));
        Check.law(dole, 1, "back 40");
        CHECK.due("5, 2 and 10", 17, dole.back(7));
        Check.law(dole, 0, "back 0");
        CHECK.due("0, 2 and 10", 12, dole.back(7));
        Check.partTo(dole, Scenes.LAST_MONTH);
        Check.law(dole, 0, "back 60");
        Check.partTo(dole, Scenes.END);
        CHECK.due("3, 2 and 10, by a law told in the last month", 15, dole.back(7));
    }

    private static void atTheEnd() {
        GrainDole dole = new GrainDole();
        dole.enter(0, 0, 3, 7, 0);
        dole.ship(3000, 119);
        Check.partTo(dole, 118);
        dole.land(0, 0, 100, false);
        dole.show(3, 0, 0);
        dole.part();
        dole.show(3, 0, 0);
        dole.enter(0, 119, 4, 8, 0);
        dole.enter(3, 118, 3, 0, 0);
        dole.enter(0, 119, 3, 7, 0);
        dole.part();
        CHECK.due("given in month 119", 5, dole.given(3, 119));
        CHECK.due("of month 118, by a letter told in 119", 5, dole.back(7));
        CHECK.due("citizen 8", 0, dole.back(8));
        CHECK.due("citizen 100", -1, dole.back(100));
    }

    private static void wrongQuestionsChangeNothing() {
        Twins busy = new Twins(CHECK, Scenes::busy);
        busy.refused("back -1", dole -> dole.back(-1));
        busy.refused("back 100", dole -> dole.back(100));
        CHECK.due("there is something to give back", true, Scenes.busy().back(10) > 0);
    }
}
