/** Promises 18 to 23: part, month, given, from, back, count. */
public final class PartingTest {
    private static final Check CHECK = new Check();

    public static void main(String[] args) {
        aPlentifulMonth();
        onlyThoseWhoCame();
        byTheListAtTheParting();
        justEnoughIsNotLean();
        leanByRank();
        leanByWhatIsThere();
        leftOversGoByNumbers();
        ranksWithoutADueGetNothing();
        nothingIsThere();
        whatIsNotSoundIsThrownFirst();
        cornIsTakenByLots();
        lawOfTheMonth();
        wrongQuestions();
        backOfALateDeath();
        backByTheLawOfTheMonth();
        backMonthByMonth();
        backForAnotherPlace();
        backIsKnownNow();
        backOfWrongCitizens();
        counting();
        theEnd();
        CHECK.finish();
    }

    /** Citizens 50 and on hold places 0 and on, all of one rank. */
    private static GrainDole withPlaces(int places, int rank) {
        GrainDole dole = new GrainDole();
        for (int place = 0; place < places; place++) {
            dole.enter(0, 0, place, 50 + place, rank);
        }
        return dole;
    }

    private static void showAll(GrainDole dole, int places) {
        for (int place = 0; place < places; place++) {
            dole.show(place, 0, 0);
        }
    }

    private static void corn(GrainDole dole, int measures) {
        int ship = dole.ship(measures, 119);
        dole.land(ship, 0, measures, false);
    }

    private static void monthIs(String name, GrainDole dole, int m, int... want) {
        for (int what = 0; what < want.length; what++) {
            CHECK.due(name + ": month " + m + ", " + what, want[what], dole.month(m, what));
        }
    }

    private static void givenIs(String name, GrainDole dole, int m, int... want) {
        for (int place = 0; place < want.length; place++) {
            CHECK.due(name + ": given " + place, want[place], dole.given(place, m));
        }
    }

    private static void aPlentifulMonth() {
        GrainDole dole = withPlaces(3, 0);
        corn(dole, 100);
        showAll(dole, 3);
        CHECK.due("part", 15, dole.part());
        monthIs("plenty", dole, 0, 15, 3, 0, 0, 85, 15, -1);
        givenIs("plenty", dole, 0, 5, 5, 5, 0);
        CHECK.due("now", 1, dole.count(0));
        CHECK.due("nobody came", 0, dole.part());
        monthIs("nobody came", dole, 1, 0, 0, 0, 0, 85, 0);
        givenIs("nobody came", dole, 1, 0, 0, 0, 0);
    }

    private static void onlyThoseWhoCame() {
        GrainDole dole = withPlaces(3, 0);
        corn(dole, 100);
        dole.show(0, 1, 0);
        dole.show(1, 0, 0);
        dole.swear(1);
        dole.swear(2);
        dole.show(2, 0, 0);
        CHECK.due("part", 5, dole.part());
        givenIs("came", dole, 0, 0, 5, 0);
    }

    private static void byTheListAtTheParting() {
        GrainDole dole = withPlaces(3, 0);
        Check.law(dole, 0, "sale yes");
        corn(dole, 100);
        showAll(dole, 3);
        dole.enter(3, 0, 0, 0, 0);
        dole.enter(2, 0, 1, 80, 0);
        dole.enter(1, 0, 52, 0, 0);
        dole.enter(0, 0, 2, 50, 0);
        CHECK.due("part", 10, dole.part());
        givenIs("list", dole, 0, 0, 5, 5);
        dole.enter(3, 0, 1, 0, 0);
        dole.enter(3, 0, 2, 0, 0);
        CHECK.due("not struck: given and held it", 0, dole.back(51));
        CHECK.due("was struck behind the sale", 5, dole.back(80));
        CHECK.due("got the other place", 5, dole.back(50));
    }

    private static void justEnoughIsNotLean() {
        GrainDole dole = withPlaces(3, 1);
        Check.law(dole, 0, "rank 1 0");
        corn(dole, 15);
        showAll(dole, 3);
        CHECK.due("part", 15, dole.part());
        monthIs("just enough", dole, 0, 15, 3, 0, 0, 0, 15);
    }

    private static void leanByRank() {
        GrainDole dole = new GrainDole();
        Check.law(dole, 0, "share 7; rank 1 50; rank 2 10; rank 3 0");
        for (int place = 0; place < 4; place++) {
            dole.enter(0, 0, place, place, place);
        }
        corn(dole, 27);
        showAll(dole, 4);
        CHECK.due("part", 10, dole.part());
        monthIs("by rank", dole, 0, 10, 2, 1, 0, 17, 28);
        givenIs("by rank", dole, 0, 7, 3, 0, 0);
    }

    private static void leanByWhatIsThere() {
        GrainDole dole = new GrainDole();
        Check.law(dole, 0, "share 10; rank 1 50; rank 2 30");
        for (int place = 0; place < 3; place++) {
            dole.enter(0, 0, 2 * place, place, place);
        }
        corn(dole, 17);
        dole.show(0, 0, 0);
        dole.show(2, 0, 0);
        dole.show(4, 0, 0);
        CHECK.due("part", 17, dole.part());
        // Due by rank 10, 5, 3: of 17 that is 9, 4, 2, and two are left over.
        givenIs("by what is there", dole, 0, 10, 0, 5, 0, 2);
        monthIs("by what is there", dole, 0, 17, 3, 1, 0, 0, 30);
    }

    private static void leftOversGoByNumbers() {
        GrainDole dole = withPlaces(4, 0);
        corn(dole, 3);
        showAll(dole, 4);
        CHECK.due("part", 3, dole.part());
        givenIs("left over", dole, 0, 1, 1, 1, 0);
        monthIs("left over", dole, 0, 3, 3, 1, 0, 0, 20);
        corn(dole, 6);
        showAll(dole, 4);
        CHECK.due("part", 6, dole.part());
        givenIs("one each", dole, 1, 2, 2, 1, 1);
        givenIs("of the month ahead of it still", dole, 0, 1, 1, 1, 0);
        CHECK.due("from, behind the month's last", -1, dole.from(0, 0, 1));
    }

    private static void ranksWithoutADueGetNothing() {
        GrainDole dole = new GrainDole();
        Check.law(dole, 0, "rank 0 19; rank 1 100");
        dole.enter(0, 0, 0, 0, 0);
        dole.enter(0, 0, 1, 1, 1);
        dole.enter(0, 0, 2, 2, 0);
        dole.enter(0, 0, 3, 3, 1);
        corn(dole, 7);
        showAll(dole, 4);
        CHECK.due("part", 7, dole.part());
        givenIs("without a due", dole, 0, 0, 4, 0, 3);
        monthIs("without a due", dole, 0, 7, 2, 1, 0, 0, 20);
    }

    private static void nothingIsThere() {
        GrainDole dole = withPlaces(2, 0);
        showAll(dole, 2);
        CHECK.due("part", 0, dole.part());
        monthIs("nothing", dole, 0, 0, 0, 1, 0, 0, 10);
        givenIs("nothing", dole, 0, 0, 0);
        CHECK.due("from", -1, dole.from(0, 0, 0));
    }

    private static void whatIsNotSoundIsThrownFirst() {
        GrainDole dole = withPlaces(2, 0);
        Check.law(dole, 1, "spoil 0");
        corn(dole, 50);
        dole.part();
        corn(dole, 4);
        showAll(dole, 2);
        CHECK.due("part", 4, dole.part());
        monthIs("thrown", dole, 1, 4, 2, 1, 50, 0, 10);
        CHECK.due("from", 1, dole.from(0, 1, 0));
    }

    private static void cornIsTakenByLots() {
        GrainDole dole = withPlaces(3, 0);
        int[] ships = {dole.ship(100, 9), dole.ship(100, 9)};
        dole.land(ships[0], 3, 3, false);
        dole.land(ships[1], 0, 4, true);
        dole.land(ships[0], 1, 20, false);
        showAll(dole, 3);
        CHECK.due("part", 15, dole.part());
        int[] lots = {0, 0, 0, 1, 1, 1, 1, 2, 2, 2, 2, 2, 2, 2, 2};
        for (int k = 0; k < lots.length; k++) {
            CHECK.due("from " + k, lots[k], dole.from(k / 5, 0, k % 5));
        }
        for (int place = 0; place < 3; place++) {
            CHECK.due("from, behind the last", -1, dole.from(place, 0, 5));
            CHECK.due("from, ahead of the first", -1, dole.from(place, 0, -1));
        }
        CHECK.due("lot 0", 0, dole.lot(0, 4));
        CHECK.due("lot 1", 0, dole.lot(1, 4));
        CHECK.due("lot 2", 12, dole.lot(2, 4));
        CHECK.due("granary 3", 0, dole.count(13));
        CHECK.due("granary 1", 12, dole.count(11));
        dole.land(ships[1], 0, 5, false);
        dole.show(1, 0, 0);
        dole.part();
        CHECK.due("the earlier first", 2, dole.from(1, 1, 0));
        CHECK.due("the earlier first", 2, dole.from(1, 1, 4));
        CHECK.due("who did not come", -1, dole.from(0, 1, 0));
    }

    private static void lawOfTheMonth() {
        GrainDole dole = withPlaces(1, 0);
        Check.law(dole, 1, "share 9");
        corn(dole, 1000);
        showAll(dole, 1);
        CHECK.due("month 0", 5, dole.part());
        showAll(dole, 1);
        CHECK.due("month 1", 9, dole.part());
        showAll(dole, 1);
        Check.law(dole, 0, "share 50");
        CHECK.due("of an older month", 9, dole.part());
        showAll(dole, 1);
        Check.law(dole, 3, "share 50");
        CHECK.due("as known now", 50, dole.part());
    }

    private static void wrongQuestions() {
        GrainDole dole = withPlaces(1, 0);
        corn(dole, 10);
        showAll(dole, 1);
        dole.part();
        int[] wrong = {-1, 1, 119, 120, Integer.MIN_VALUE, Integer.MAX_VALUE};
        for (int m : wrong) {
            CHECK.due("month " + m, -1, dole.month(m, 0));
            CHECK.due("given in " + m, -1, dole.given(0, m));
            CHECK.due("from in " + m, -1, dole.from(0, m, 0));
        }
        int[] places = {-1, 30, Integer.MIN_VALUE, Integer.MAX_VALUE};
        for (int place : places) {
            CHECK.due("given for " + place, -1, dole.given(place, 0));
            CHECK.due("from for " + place, -1, dole.from(place, 0, 0));
            CHECK.due("from, measure " + place, -1, dole.from(0, 0, place));
            CHECK.due("month, what " + place, -1, dole.month(0, place));
        }
        CHECK.due("month, what 6", -1, dole.month(0, 6));
    }

    private static void backOfALateDeath() {
        GrainDole dole = withPlaces(2, 0);
        corn(dole, 1000);
        for (int m = 0; m < 4; m++) {
            showAll(dole, 2);
            dole.part();
        }
        CHECK.due("nothing yet", 0, dole.back(50));
        dole.enter(1, 2, 50, 0, 0);
        CHECK.due("months 2 and 3", 10, dole.back(50));
        CHECK.due("the other", 0, dole.back(51));
        dole.enter(1, 0, 50, 0, 0);
        CHECK.due("all four", 20, dole.back(50));
        dole.enter(0, 0, 0, 60, 0);
        CHECK.due("whoever holds it now", 20, dole.back(50));
        CHECK.due("who was given nothing", 0, dole.back(60));
    }

    private static void backByTheLawOfTheMonth() {
        GrainDole dole = withPlaces(1, 0);
        corn(dole, 1000);
        for (int m = 0; m < 3; m++) {
            showAll(dole, 1);
            dole.part();
        }
        Check.law(dole, 1, "back 200");
        Check.law(dole, 2, "back 0");
        dole.enter(1, 0, 50, 0, 0);
        CHECK.due("100, 200 and 0 hundredths", 15, dole.back(50));
        Check.law(dole, 0, "back 50");
        CHECK.due("50, 200 and 0 hundredths", 12, dole.back(50));
    }

    private static void backMonthByMonth() {
        GrainDole dole = withPlaces(1, 0);
        Check.law(dole, 0, "share 3; back 50");
        int first = dole.ship(10, 9);
        for (int k = 0; k < 9; k++) {
            dole.land(first, 0, 1, false);
        }
        for (int m = 0; m < 3; m++) {
            showAll(dole, 1);
            dole.part();
        }
        dole.enter(1, 0, 50, 0, 0);
        CHECK.due("downwards in each month, whatever the lots", 3, dole.back(50));
    }

    private static void backForAnotherPlace() {
        GrainDole dole = withPlaces(1, 0);
        corn(dole, 100);
        showAll(dole, 1);
        dole.part();
        dole.enter(3, 0, 0, 0, 0);
        dole.enter(0, 0, 7, 50, 0);
        CHECK.due("he holds another", 5, dole.back(50));
        dole.enter(3, 0, 7, 0, 0);
        dole.enter(0, 0, 0, 50, 0);
        CHECK.due("he holds it again", 0, dole.back(50));
    }

    private static void backIsKnownNow() {
        GrainDole dole = new GrainDole();
        Check.law(dole, 0, "sale yes");
        dole.enter(0, 0, 0, 50, 0);
        dole.enter(2, 0, 0, 51, 0);
        corn(dole, 100);
        dole.show(0, 0, 0);
        dole.part();
        CHECK.due("sale stands", 0, dole.back(51));
        Check.law(dole, 0, "sale no");
        CHECK.due("sale was void", 5, dole.back(51));
        CHECK.due("who was given nothing", 0, dole.back(50));
        Check.partTo(dole, 120);
        CHECK.due("at the end", 5, dole.back(51));
    }

    private static void backOfWrongCitizens() {
        GrainDole dole = new GrainDole();
        int[] wrong = {-1, 100, Integer.MIN_VALUE, Integer.MAX_VALUE};
        for (int citizen : wrong) {
            CHECK.due("citizen " + citizen, -1, dole.back(citizen));
        }
        CHECK.due("citizen 99", 0, dole.back(99));
    }

    private static void counting() {
        GrainDole dole = withPlaces(2, 0);
        Check.law(dole, 0, "share 4");
        corn(dole, 10);
        dole.land(0, 1, 20, false);
        dole.land(0, 2, 30, false);
        dole.land(0, 3, 40, false);
        dole.part();
        dole.feed(0, 0, 0, 0, 0);
        dole.end(7);
        int[] want = {1, 1, 2, 1, 4, 7, 100, -1, -1, -1, 10, 20, 30, 40, -1};
        for (int what = 0; what < want.length; what++) {
            CHECK.due("count " + what, want[what], dole.count(what));
        }
        CHECK.due("count -1", -1, dole.count(-1));
        CHECK.due("count least", -1, dole.count(Integer.MIN_VALUE));
        CHECK.due("count most", -1, dole.count(Integer.MAX_VALUE));
    }

    private static void theEnd() {
        GrainDole dole = withPlaces(1, 0);
        Check.law(dole, 0, "spoil 60");
        corn(dole, 1000);
        for (int m = 0; m < 120; m++) {
            CHECK.due("now", m, dole.count(0));
            showAll(dole, 1);
            CHECK.due("part " + m, m <= 60 ? 5 : 0, dole.part());
        }
        CHECK.due("now", 120, dole.count(0));
        CHECK.due("part", -1, dole.part());
        CHECK.due("now still", 120, dole.count(0));
        CHECK.due("month 61", 695, dole.month(61, 3));
        CHECK.due("month 119", 1, dole.month(119, 2));
        CHECK.due("month 120", -1, dole.month(120, 0));
        CHECK.due("given", 5, dole.given(0, 59));
        CHECK.due("given", 5, dole.given(0, 60));
        CHECK.due("from", -1, dole.from(0, 59, 5));
        CHECK.due("from", 0, dole.from(0, 60, 4));
        CHECK.due("room", 1000, dole.room(0, 50));
        CHECK.due("room was set", 50, dole.room(0, 60));
    }
}
