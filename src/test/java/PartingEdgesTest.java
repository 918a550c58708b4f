/** The edges of promises 18 to 21: part, month, given, from. */
public final class PartingEdgesTest {
    private static final Check CHECK = new Check();

    public static void main(String[] args) {
        nobodyAndNothing();
        leanFromOneTooFew();
        shareOf1And50();
        byRankDownwards();
        byRankJustEnough();
        noDueByRank();
        leftOverFromNoneToAll();
        leftOverPassesThoseWithoutADue();
        dueByRankStaysUneven();
        allPlacesAndAllCorn();
        shownButHeldByNobody();
        heldButNotShown();
        heldByAnotherThanWhoShowed();
        tokensAreForgotten();
        lotsJustSpent();
        lotsOfOneMonthByNumbers();
        monthsThatCanBeAsked();
        whatCanBeAskedOfAMonth();
        placesThatCanBeAsked();
        measuresThatCanBeAsked();
        monthsSideBySide();
        manyGifts();
        theEnd();
        wrongQuestionsChangeNothing();
        CHECK.finish();
    }

    /** Places 0 and on are held by the citizens of the same numbers, with the ranks that are told. */
    private static GrainDole withRanks(String law, int... ranks) {
        GrainDole dole = new GrainDole();
        if (!law.isEmpty()) {
            Check.law(dole, 0, law);
        }
        for (int place = 0; place < ranks.length; place++) {
            dole.enter(0, 0, place, place, ranks[place]);
        }
        dole.ship(3000, 119);
        return dole;
    }

    private static void corn(GrainDole dole, int measures) {
        if (measures > 0) {
            dole.land(0, 0, measures, false);
        }
    }

    private static void showUpTo(GrainDole dole, int places) {
        for (int place = 0; place < places; place++) {
            dole.show(place, 0, place % 4);
        }
    }

    /** Parts a month in which all came: what each was given, and what that makes in all. */
    private static void partedSo(String name, GrainDole dole, boolean lean, int... given) {
        int m = dole.count(0);
        int there = dole.count(6);
        int sum = 0;
        int served = 0;
        for (int measures : given) {
            sum += measures;
            served += measures > 0 ? 1 : 0;
        }
        showUpTo(dole, given.length);
        CHECK.due(name + ": part", sum, dole.part());
        int[] facts = {sum, served, lean ? 1 : 0, 0, there - sum, given.length * dole.holds(m, m, 0), -1};
        for (int what = 0; what < facts.length; what++) {
            CHECK.due(name + ": month, " + what, facts[what], dole.month(m, what));
        }
        for (int place = 0; place < given.length; place++) {
            CHECK.due(name + ": given " + place, given[place], dole.given(place, m));
        }
        CHECK.due(name + ": lies there", there - sum, dole.count(6));
        CHECK.due(name + ": now", m + 1, dole.count(0));
    }

    private static void nobodyAndNothing() {
        partedSo("nobody, nothing", new GrainDole(), false);
        GrainDole dole = withRanks("");
        corn(dole, 9);
        partedSo("nobody", dole, false);
        partedSo("nothing", withRanks("", 0, 0), true, 0, 0);
        partedSo("nothing for one", withRanks("", 0), true, 0);
    }

    private static void leanFromOneTooFew() {
        for (int there = 14; there <= 16; there++) {
            GrainDole dole = withRanks("rank 0 0", 0, 0, 0);
            corn(dole, there);
            int each = there < 15 ? 0 : 5;
            partedSo("three of 5 out of " + there, dole, there < 15, each, each, each);
        }
        for (int there = 0; there <= 2; there++) {
            GrainDole dole = withRanks("share 1", 0);
            corn(dole, there);
            partedSo("one of 1 out of " + there, dole, there < 1, Math.min(there, 1));
        }
    }

    private static void shareOf1And50() {
        GrainDole dole = withRanks("share 1", 0, 1, 2);
        corn(dole, 3);
        partedSo("share 1", dole, false, 1, 1, 1);
        dole = withRanks("share 50", 0, 1, 2);
        corn(dole, 150);
        partedSo("share 50", dole, false, 50, 50, 50);
        dole = withRanks("share 50", 0, 1, 2);
        corn(dole, 149);
        partedSo("share 50, one too few", dole, true, 50, 50, 49);
    }

    private static void byRankDownwards() {
        GrainDole dole = withRanks("share 1;rank 0 99;rank 1 100", 0, 1);
        corn(dole, 1);
        partedSo("99 hundredths of 1", dole, true, 0, 1);
        dole = withRanks("share 50;rank 0 1;rank 1 2;rank 2 3;rank 3 99", 0, 1, 2, 3);
        corn(dole, 199);
        partedSo("hundredths of 50", dole, true, 0, 1, 1, 49);
        dole = withRanks("share 7;rank 0 14;rank 1 15;rank 2 28;rank 3 29", 0, 1, 2, 3);
        corn(dole, 27);
        partedSo("hundredths of 7", dole, true, 0, 1, 1, 2);
    }

    private static void byRankJustEnough() {
        for (int there = 0; there <= 12; there++) {
            GrainDole dole = withRanks("share 5;rank 1 50", 1, 0);
            corn(dole, there);
            // By rank 2 and 5 are due: 7 in all.
            int second = there * 5 / 7;
            int first = there - second;
            if (there >= 10) {
                partedSo("out of " + there, dole, false, 5, 5);
            } else if (there >= 7) {
                partedSo("out of " + there, dole, true, 2, 5);
            } else if (there * 2 % 7 == 0) {
                partedSo("out of " + there, dole, true, there * 2 / 7, second);
            } else {
                partedSo("out of " + there, dole, true, first, second);
            }
        }
    }

    private static void noDueByRank() {
        GrainDole dole = withRanks("rank 0 0;rank 1 0;rank 2 0;rank 3 0", 0, 1, 2, 3);
        corn(dole, 19);
        partedSo("no rank has any", dole, true, 0, 0, 0, 0);
        dole = withRanks("share 1;rank 0 99;rank 1 1", 0, 1);
        partedSo("nothing is there either", dole, true, 0, 0);
        dole = withRanks("rank 0 0;rank 1 100", 0, 1);
        corn(dole, 5);
        partedSo("just one has", dole, true, 0, 5);
    }

    private static void leftOverFromNoneToAll() {
        for (int there = 0; there <= 30; there++) {
            int[] ranks = new int[30];
            int[] given = new int[30];
            for (int place = 0; place < 30; place++) {
                given[place] = place < there ? 1 : 0;
            }
            GrainDole dole = withRanks("share 1", ranks);
            corn(dole, there);
            partedSo("30 places, " + there + " measures", dole, there < 30, given);
        }
        int[][] fours = {{0, 0, 0, 0}, {1, 0, 0, 0}, {1, 1, 0, 0}, {1, 1, 1, 0}, {1, 1, 1, 1}, {2, 1, 1, 1}, {2, 2, 1, 1},
            {2, 2, 2, 1}, {2, 2, 2, 2}};
        for (int there = 0; there < fours.length; there++) {
            GrainDole dole = withRanks("", 0, 1, 2, 3);
            corn(dole, there);
            partedSo("4 places, " + there + " measures", dole, true, fours[there]);
        }
    }

    private static void leftOverPassesThoseWithoutADue() {
        GrainDole dole = withRanks("share 4;rank 0 0;rank 3 24", 0, 1, 3, 1, 0, 1);
        corn(dole, 2);
        partedSo("two left over", dole, true, 0, 1, 0, 1, 0, 0);
        dole = withRanks("share 4;rank 0 0;rank 3 25", 0, 1, 3, 1, 0, 1);
        corn(dole, 2);
        partedSo("a due of one by rank is a due", dole, true, 0, 1, 1, 0, 0, 0);
    }

    private static void dueByRankStaysUneven() {
        GrainDole dole = withRanks("share 50;rank 1 50;rank 2 10", 0, 1, 2);
        corn(dole, 40);
        // By rank 50, 25 and 5: of 40 that is 25, 12 and 2, and one is left over.
        partedSo("uneven", dole, true, 26, 12, 2);
    }

    private static void allPlacesAndAllCorn() {
        int[] ranks = new int[30];
        int[] given = new int[30];
        for (int place = 0; place < 30; place++) {
            ranks[place] = place % 4;
            given[place] = 50;
        }
        GrainDole dole = withRanks("share 50", ranks);
        for (int granary = 0; granary < 4; granary++) {
            dole.room(granary, 5000);
            dole.land(0, granary, 3000, false);
            dole.land(0, granary, 3000, true);
        }
        CHECK.due("all that can lie there", 20000, dole.count(6));
        partedSo("all places", dole, false, given);
        CHECK.due("granary 0", 3500, dole.count(10));
        CHECK.due("granary 3", 5000, dole.count(13));
        dole = withRanks("share 50", ranks);
        dole.room(0, 1499);
        corn(dole, 3000);
        given[29] = 49;
        partedSo("one too few for all", dole, true, given);
    }

    private static void shownButHeldByNobody() {
        GrainDole dole = withRanks("", 0, 0);
        corn(dole, 9);
        showUpTo(dole, 2);
        dole.enter(3, 0, 0, 0, 0);
        CHECK.due("part", 5, dole.part());
        CHECK.due("struck", 0, dole.given(0, 0));
        CHECK.due("not struck", 5, dole.given(1, 0));
        CHECK.due("not lean", 0, dole.month(0, 2));
        CHECK.due("due by share", 5, dole.month(0, 5));
    }

    private static void heldButNotShown() {
        GrainDole dole = withRanks("", 0, 0, 0, 0);
        corn(dole, 9);
        dole.show(0, 1, 0);
        dole.swear(1);
        dole.show(1, 0, 0);
        dole.show(2, 0, 4);
        dole.show(3, 0, 3);
        CHECK.due("part", 5, dole.part());
        int[] given = {0, 0, 0, 5};
        for (int place = 0; place < 4; place++) {
            CHECK.due("given " + place, given[place], dole.given(place, 0));
        }
    }

    private static void heldByAnotherThanWhoShowed() {
        GrainDole dole = withRanks("rank 0 0;rank 1 100", 0, 1);
        corn(dole, 9);
        showUpTo(dole, 2);
        dole.enter(3, 0, 0, 0, 0);
        dole.enter(0, 0, 0, 70, 1);
        CHECK.due("part", 9, dole.part());
        CHECK.due("by the rank at the parting", 5, dole.given(0, 0));
        CHECK.due("the other", 4, dole.given(1, 0));
        dole.enter(1, 0, 70, 0, 0);
        CHECK.due("given to the holder at the parting", 5, dole.back(70));
        CHECK.due("not to who showed", 0, dole.back(0));
    }

    private static void tokensAreForgotten() {
        GrainDole dole = withRanks("", 0, 0);
        corn(dole, 100);
        showUpTo(dole, 2);
        CHECK.due("part", 10, dole.part());
        CHECK.due("nobody came again", 0, dole.part());
        dole.show(1, 0, 0);
        CHECK.due("one came again", 5, dole.part());
        CHECK.due("who", 0, dole.given(0, 2));
        CHECK.due("who", 5, dole.given(1, 2));
    }

    private static void lotsJustSpent() {
        GrainDole dole = withRanks("share 3", 0, 0, 0);
        corn(dole, 3);
        corn(dole, 2);
        corn(dole, 1);
        corn(dole, 4);
        showUpTo(dole, 3);
        CHECK.due("part", 9, dole.part());
        int[][] from = {{0, 0, 0}, {1, 1, 2}, {3, 3, 3}};
        for (int place = 0; place < 3; place++) {
            for (int i = -1; i <= 3; i++) {
                boolean is = i >= 0 && i < 3;
                CHECK.due("from " + place + " " + i, is ? from[place][i] : -1, dole.from(place, 0, i));
            }
        }
        int[] left = {0, 0, 0, 1};
        for (int k = 0; k < 4; k++) {
            CHECK.due("left of lot " + k, left[k], dole.lot(k, 4));
        }
        CHECK.due("a place given of two lots is one place", 3, dole.month(0, 1));
        dole.show(2, 0, 0);
        CHECK.due("the last measure", 1, dole.part());
        CHECK.due("its lot", 3, dole.from(2, 1, 0));
        CHECK.due("no other", -1, dole.from(2, 1, 1));
    }

    private static void lotsOfOneMonthByNumbers() {
        GrainDole dole = withRanks("share 1", 0);
        dole.land(0, 3, 1, true);
        dole.land(0, 0, 1, false);
        dole.part();
        dole.land(0, 0, 1, true);
        for (int m = 1; m <= 3; m++) {
            dole.show(0, 0, 0);
            dole.part();
            CHECK.due("from in month " + m, m - 1, dole.from(0, m, 0));
        }
    }

    private static void monthsThatCanBeAsked() {
        int[] nows = {0, 1, 2, 60, 119, 120};
        for (int now : nows) {
            GrainDole dole = withRanks("", 0);
            Check.partTo(dole, now);
            for (int m = -3; m <= 123; m++) {
                boolean is = m >= 0 && m < now;
                CHECK.due("now " + now + ", month " + m, is ? 0 : -1, dole.month(m, 0));
                CHECK.due("now " + now + ", given in " + m, is ? 0 : -1, dole.given(0, m));
                CHECK.due("now " + now + ", from in " + m, -1, dole.from(0, m, 0));
            }
        }
        GrainDole dole = withRanks("", 0);
        dole.part();
        for (int m : Scenes.FAR) {
            CHECK.due("month " + m, -1, dole.month(m, 0));
            CHECK.due("given in " + m, -1, dole.given(0, m));
            CHECK.due("from in " + m, -1, dole.from(0, m, 0));
        }
    }

    private static void whatCanBeAskedOfAMonth() {
        GrainDole dole = withRanks("share 9;spoil 0", 0, 0);
        corn(dole, 7);
        dole.part();
        corn(dole, 11);
        showUpTo(dole, 2);
        dole.part();
        int[][] facts = {{0, 0, 0, 0, 7, 0}, {11, 2, 1, 7, 0, 18}};
        for (int m = 0; m < 2; m++) {
            for (int what = -20; what <= 20; what++) {
                boolean is = what >= 0 && what < 6;
                CHECK.due("month " + m + ", " + what, is ? facts[m][what] : -1, dole.month(m, what));
            }
            for (int what : Scenes.FAR) {
                CHECK.due("month " + m + ", " + what, -1, dole.month(m, what));
            }
        }
    }

    private static void placesThatCanBeAsked() {
        int[] ranks = new int[30];
        GrainDole dole = withRanks("share 2", ranks);
        corn(dole, 100);
        showUpTo(dole, 30);
        dole.part();
        for (int place = -40; place <= 130; place++) {
            boolean is = place >= 0 && place < 30;
            CHECK.due("given " + place, is ? 2 : -1, dole.given(place, 0));
            CHECK.due("from " + place, is ? 0 : -1, dole.from(place, 0, 1));
        }
        for (int place : Scenes.FAR) {
            CHECK.due("given " + place, -1, dole.given(place, 0));
            CHECK.due("from " + place, -1, dole.from(place, 0, 0));
        }
    }

    private static void measuresThatCanBeAsked() {
        GrainDole dole = withRanks("share 50", 0, 0);
        corn(dole, 49);
        corn(dole, 51);
        showUpTo(dole, 2);
        dole.part();
        for (int i = -60; i <= 110; i++) {
            int want = i < 0 || i >= 50 ? -1 : i == 49 ? 1 : 0;
            CHECK.due("from 0 " + i, want, dole.from(0, 0, i));
            CHECK.due("from 1 " + i, i < 0 || i >= 50 ? -1 : 1, dole.from(1, 0, i));
        }
        for (int i : Scenes.FAR) {
            CHECK.due("from 0 " + i, -1, dole.from(0, 0, i));
            CHECK.due("from 1 " + i, -1, dole.from(1, 0, i));
        }
    }

    /** The last of one month is the first of the next, and out of the same lot. */
    private static void monthsSideBySide() {
        GrainDole dole = withRanks("share 2", 0, 0, 0);
        corn(dole, 100);
        int[][] came = {{2}, {2, 1}, {1, 0}, {0}, {}, {0, 2}};
        for (int m = 0; m < came.length; m++) {
            for (int place : came[m]) {
                dole.show(place, 0, 0);
            }
            CHECK.due("part " + m, 2 * came[m].length, dole.part());
        }
        int[][] given = {{0, 0, 2}, {0, 2, 2}, {2, 2, 0}, {2, 0, 0}, {0, 0, 0}, {2, 0, 2}};
        for (int m = 0; m < given.length; m++) {
            CHECK.due("places in " + m, came[m].length, dole.month(m, 1));
            for (int place = 0; place < 3; place++) {
                int want = given[m][place];
                CHECK.due("given " + place + " in " + m, want, dole.given(place, m));
                CHECK.due("its second measure", want == 2 ? 0 : -1, dole.from(place, m, 1));
                CHECK.due("no third one", -1, dole.from(place, m, 2));
            }
        }
    }

    /** Each of many months has gifts of its own, whichever lots they came from. */
    private static void manyGifts() {
        int months = 9;
        int[] ranks = new int[30];
        GrainDole dole = withRanks("share 1", ranks);
        for (int k = 0; k < 90; k++) {
            corn(dole, 3);
        }
        for (int m = 0; m < months; m++) {
            showUpTo(dole, 30);
            CHECK.due("part " + m, 30, dole.part());
        }
        for (int k = 0; k < months * 10; k++) {
            int m = k / 10;
            int place = 3 * (k % 10) + k % 3;
            CHECK.due("from " + place + " in " + m, k, dole.from(place, m, 0));
        }
        CHECK.due("nothing is left", 0, dole.count(6));
    }

    private static void theEnd() {
        GrainDole dole = withRanks("spoil 60;share 1", 0);
        Check.partTo(dole, 118);
        corn(dole, 9);
        for (int m = 118; m <= 119; m++) {
            CHECK.due("now", m, dole.count(0));
            dole.show(0, 0, 0);
            CHECK.due("part in " + m, 1, dole.part());
        }
        CHECK.due("now", 120, dole.count(0));
        CHECK.due("no month is left", -1, dole.part());
        CHECK.due("nor then", -1, dole.part());
        CHECK.due("now", 120, dole.count(0));
        CHECK.due("lies there", 7, dole.count(6));
        CHECK.due("month 119", 1, dole.month(119, 0));
        CHECK.due("month 120", -1, dole.month(120, 0));
        CHECK.due("given", 1, dole.given(0, 119));
        CHECK.due("from", 0, dole.from(0, 119, 0));
        new Twins(CHECK, Scenes::over).refused("part at the end", GrainDole::part);
    }

    private static void wrongQuestionsChangeNothing() {
        Twins busy = new Twins(CHECK, Scenes::busy);
        busy.refused("month -1", dole -> dole.month(-1, 0));
        busy.refused("month 3", dole -> dole.month(3, 0));
        busy.refused("month 0, what 6", dole -> dole.month(0, 6));
        busy.refused("given 30", dole -> dole.given(30, 0));
        busy.refused("given in 3", dole -> dole.given(0, 3));
        busy.refused("from -1", dole -> dole.from(0, 0, -1));
        busy.refused("from behind the last", dole -> dole.from(0, 0, 4));
    }
}
