import java.util.Arrays;

/** The edges of promises 6 to 9: enter, isVoid, holder, rank. */
public final class ListEdgesTest {
    private static final Check CHECK = new Check();
    private static final int ENROLLED = 0;
    private static final int DIED = 1;
    private static final int SOLD = 2;
    private static final int STRUCK = 3;

    public static void main(String[] args) {
        entriesUpTo150();
        entriesAreRefusedAndChangeNothing();
        kindsFrom0To3();
        monthsNotBehindNow();
        placesCitizensAndRanks();
        whatAKindHasNot();
        entriesUpToTheEnd();
        entriesThatCanBeAsked();
        monthsThatCanBeAsked();
        placesThatCanBeAsked();
        onTheListFromItsMonth();
        onTheListAsKnownFromWhenItWasTold();
        enrolledOnlyWhereItIsFree();
        enrolledOnlyWhoIsFree();
        deadOnlyOnce();
        soldOnlyIfSalesAreLet();
        soldOnlyWhatIsHeld();
        soldOnlyToWhoIsFree();
        struckOnlyWhatIsHeld();
        ofOneMonthByNumbers();
        allPlacesAndAllCitizens();
        wrongQuestionsChangeNothing();
        CHECK.finish();
    }

    private static void voidsAre(String name, GrainDole dole, int... want) {
        for (int entry = 0; entry < want.length; entry++) {
            CHECK.due(name + ": entry " + entry, want[entry], dole.isVoid(entry, 119));
        }
        CHECK.due(name + ": entries", want.length, dole.count(2));
    }

    private static void entriesUpTo150() {
        GrainDole dole = new GrainDole();
        for (int k = 0; k < Scenes.ENTRIES; k++) {
            CHECK.due("entry " + k, k, dole.enter(k == 149 ? ENROLLED : STRUCK, 0, 7, 8, 2));
            CHECK.due("entries", k + 1, dole.count(2));
        }
        CHECK.due("the last stands", 8, dole.holder(7, 0, 0));
        for (int kind = 0; kind <= 3; kind++) {
            CHECK.due("another, of kind " + kind, -1, dole.enter(kind, 0, 7, 9, 0));
        }
        CHECK.due("entries", Scenes.ENTRIES, dole.count(2));
        CHECK.due("it stands still", 8, dole.holder(7, 119, 119));
        CHECK.due("void", 1, dole.isVoid(148, 0));
        CHECK.due("not void", 0, dole.isVoid(149, 0));
        CHECK.due("no such entry", -1, dole.isVoid(150, 0));
    }

    private static void entriesAreRefusedAndChangeNothing() {
        Twins busy = new Twins(CHECK, Scenes::busy);
        int[][] wrong = {
            {-1, 0, 0, 50, 0}, {4, 0, 0, 50, 0}, {0, -1, 9, 50, 0}, {0, 4, 9, 50, 0}, {1, 4, 11, 0, 0}, {2, 4, 0, 50, 0},
            {3, 4, 1, 0, 0}, {3, -1, 1, 0, 0}, {0, 119, 9, 50, 0}, {0, 120, 9, 50, 0},
            {0, 3, -1, 50, 0}, {0, 3, 30, 50, 0}, {0, 3, 9, -1, 0}, {0, 3, 9, 100, 0}, {0, 3, 9, 50, -1},
            {0, 3, 9, 50, 4}, {1, 3, -1, 0, 0}, {1, 3, 100, 0, 0}, {2, 3, -1, 50, 0}, {2, 3, 30, 50, 0},
            {2, 3, 1, -1, 0}, {2, 3, 1, 100, 0}, {3, 3, -1, 0, 0}, {3, 3, 30, 0, 0},
        };
        for (int[] row : wrong) {
            busy.refused("enter " + Arrays.toString(row), dole -> dole.enter(row[0], row[1], row[2], row[3], row[4]));
        }
        Twins full = new Twins(CHECK, Scenes::full);
        Twins over = new Twins(CHECK, Scenes::over);
        for (int k = 0; k <= 3; k++) {
            int kind = k;
            full.refused("a 151st of kind " + kind, dole -> dole.enter(kind, 1, 1, 50, 0));
            over.refused("at the end, kind " + kind, dole -> dole.enter(kind, 119, 11, 50, 0));
            over.refused("at the end, of month 120, kind " + kind, dole -> dole.enter(kind, 120, 11, 50, 0));
        }
    }

    private static void kindsFrom0To3() {
        for (int kind = -300; kind <= 300; kind++) {
            GrainDole dole = new GrainDole();
            boolean is = kind >= 0 && kind <= 3;
            CHECK.due("kind " + kind, is ? 0 : -1, dole.enter(kind, 0, 0, 0, 0));
            CHECK.due("entries", is ? 1 : 0, dole.count(2));
        }
        for (int kind : Scenes.FAR) {
            CHECK.due("kind " + kind, -1, new GrainDole().enter(kind, 0, 0, 0, 0));
        }
    }

    private static void monthsNotBehindNow() {
        int[] nows = {0, 1, 60, 118, 119};
        for (int now : nows) {
            for (int kind = 0; kind <= 3; kind++) {
                GrainDole dole = new GrainDole();
                Check.partTo(dole, now);
                int entries = 0;
                for (int month = -2; month <= 121; month++) {
                    boolean is = month >= 0 && month <= now;
                    CHECK.due("in " + now + " of " + month, is ? entries : -1, dole.enter(kind, month, 0, 0, 0));
                    entries += is ? 1 : 0;
                }
                for (int month : Scenes.FAR) {
                    CHECK.due("in " + now + " of " + month, -1, dole.enter(kind, month, 0, 0, 0));
                }
                CHECK.due("entries", entries, dole.count(2));
            }
        }
    }

    /** Of a kind, whether its first, second and third number are taken from 0 to just so many. */
    private static void numbersAre(int kind, int... most) {
        for (int which = 0; which < most.length; which++) {
            for (int n = -2; n <= 120; n++) {
                int[] abc = {0, 0, 0};
                abc[which] = n;
                boolean is = n >= 0 && n <= most[which];
                CHECK.due("kind " + kind + ", number " + which + " of " + n, is ? 0 : -1,
                        new GrainDole().enter(kind, 0, abc[0], abc[1], abc[2]));
            }
            for (int n : Scenes.FAR) {
                int[] abc = {0, 0, 0};
                abc[which] = n;
                CHECK.due("kind " + kind + ", number " + which + " of " + n, -1,
                        new GrainDole().enter(kind, 0, abc[0], abc[1], abc[2]));
            }
        }
    }

    private static void placesCitizensAndRanks() {
        numbersAre(ENROLLED, 29, 99, 3);
        numbersAre(DIED, 99);
        numbersAre(SOLD, 29, 99);
        numbersAre(STRUCK, 29);
        int[][] edges = {{0, 0, 0}, {0, 99, 3}, {29, 0, 3}, {29, 99, 0}, {29, 99, 3}};
        for (int[] edge : edges) {
            GrainDole dole = new GrainDole();
            dole.enter(ENROLLED, 0, edge[0], edge[1], edge[2]);
            CHECK.due("holder", edge[1], dole.holder(edge[0], 0, 0));
            CHECK.due("rank", edge[2], dole.rank(edge[0], 0, 0));
        }
    }

    private static void whatAKindHasNot() {
        for (int n : Scenes.FAR) {
            GrainDole dole = new GrainDole();
            Check.law(dole, 0, "sale yes");
            CHECK.due("enrolled", 0, dole.enter(ENROLLED, 0, 4, 5, 2));
            CHECK.due("sold, c " + n, 1, dole.enter(SOLD, 0, 4, 6, n));
            CHECK.due("rank it had", 2, dole.rank(4, 0, 0));
            CHECK.due("struck, b and c " + n, 2, dole.enter(STRUCK, 0, 4, n, n));
            CHECK.due("died, b and c " + n, 3, dole.enter(DIED, 0, 5, n, n));
            voidsAre("of no matter", dole, 0, 0, 0, 0);
        }
    }

    private static void entriesUpToTheEnd() {
        GrainDole dole = new GrainDole();
        Check.partTo(dole, Scenes.LAST_MONTH);
        CHECK.due("in month 119", 0, dole.enter(ENROLLED, 119, 3, 4, 1));
        dole.part();
        CHECK.due("at the end", -1, dole.enter(STRUCK, 119, 3, 0, 0));
        CHECK.due("at the end, of month 0", -1, dole.enter(STRUCK, 0, 3, 0, 0));
        CHECK.due("entries", 1, dole.count(2));
        CHECK.due("holder", 4, dole.holder(3, 119, 119));
    }

    private static void entriesThatCanBeAsked() {
        GrainDole dole = new GrainDole();
        CHECK.due("of none", -1, dole.isVoid(0, 0));
        for (int k = 0; k < 20; k++) {
            dole.enter(DIED, 0, 1, 0, 0);
        }
        for (int entry = -3; entry <= 200; entry++) {
            int want = entry < 0 || entry >= 20 ? -1 : entry == 0 ? 0 : 1;
            CHECK.due("isVoid " + entry, want, dole.isVoid(entry, 0));
        }
        for (int n : Scenes.FAR) {
            CHECK.due("isVoid " + n, -1, dole.isVoid(n, 0));
            CHECK.due("isVoid as known in " + n, -1, dole.isVoid(0, n));
        }
    }

    private static void monthsThatCanBeAsked() {
        GrainDole dole = new GrainDole();
        dole.enter(ENROLLED, 0, 3, 4, 1);
        for (int month = -2; month <= 121; month++) {
            boolean is = month >= 0 && month <= 119;
            CHECK.due("holder in " + month, is ? 4 : -1, dole.holder(3, month, 119));
            CHECK.due("rank in " + month, is ? 1 : -1, dole.rank(3, month, 119));
            CHECK.due("isVoid as known in " + month, is ? 0 : -1, dole.isVoid(0, month));
        }
        dole = new GrainDole();
        dole.enter(ENROLLED, 0, 3, 4, 1);
        for (int month = -2; month <= 121; month++) {
            boolean is = month >= 0 && month <= 119;
            CHECK.due("holder as known in " + month, is ? 4 : -1, dole.holder(3, 119, month));
            CHECK.due("rank as known in " + month, is ? 1 : -1, dole.rank(3, 119, month));
        }
        for (int month : Scenes.FAR) {
            CHECK.due("holder in " + month, -1, dole.holder(3, month, 0));
            CHECK.due("holder as known in " + month, -1, dole.holder(3, 0, month));
            CHECK.due("rank in " + month, -1, dole.rank(3, month, 0));
            CHECK.due("rank as known in " + month, -1, dole.rank(3, 0, month));
        }
    }

    private static void placesThatCanBeAsked() {
        GrainDole dole = new GrainDole();
        for (int place = 0; place < 30; place++) {
            dole.enter(ENROLLED, 0, place, 99 - place, place % 4);
        }
        for (int place = -100; place <= 100; place++) {
            boolean is = place >= 0 && place < 30;
            CHECK.due("holder of " + place, is ? 99 - place : -1, dole.holder(place, 0, 0));
            CHECK.due("rank of " + place, is ? place % 4 : -1, dole.rank(place, 0, 0));
        }
        for (int place : Scenes.FAR) {
            CHECK.due("holder of " + place, -1, dole.holder(place, 0, 0));
            CHECK.due("rank of " + place, -1, dole.rank(place, 0, 0));
        }
    }

    private static void onTheListFromItsMonth() {
        int[] months = {0, 1, 59, 60};
        for (int of : months) {
            GrainDole dole = new GrainDole();
            Check.partTo(dole, 60);
            dole.enter(ENROLLED, of, 3, 4, 2);
            for (int month = 0; month <= 119; month++) {
                CHECK.due("of " + of + ", holder in " + month, month < of ? -1 : 4, dole.holder(3, month, 60));
                CHECK.due("of " + of + ", rank in " + month, month < of ? -1 : 2, dole.rank(3, month, 60));
            }
        }
    }

    private static void onTheListAsKnownFromWhenItWasTold() {
        int[] nows = {0, 1, 60, 118, 119};
        for (int now : nows) {
            GrainDole dole = new GrainDole();
            Check.partTo(dole, now);
            dole.enter(ENROLLED, 0, 3, 4, 2);
            for (int known = 0; known <= 119; known++) {
                CHECK.due("told in " + now + ", holder as known in " + known, known < now ? -1 : 4,
                        dole.holder(3, 0, known));
                CHECK.due("told in " + now + ", rank as known in " + known, known < now ? -1 : 2,
                        dole.rank(3, 119, known));
                CHECK.due("told in " + now + ", isVoid as known in " + known, known < now ? -1 : 0,
                        dole.isVoid(0, known));
            }
        }
    }

    private static void enrolledOnlyWhereItIsFree() {
        GrainDole dole = new GrainDole();
        dole.enter(ENROLLED, 0, 3, 40, 2);
        dole.enter(ENROLLED, 0, 3, 41, 1);
        CHECK.due("holder", 40, dole.holder(3, 0, 0));
        CHECK.due("rank", 2, dole.rank(3, 0, 0));
        dole.enter(STRUCK, 0, 3, 0, 0);
        dole.enter(ENROLLED, 0, 3, 41, 1);
        CHECK.due("holder", 41, dole.holder(3, 0, 0));
        CHECK.due("rank", 1, dole.rank(3, 0, 0));
        dole.enter(DIED, 0, 41, 0, 0);
        CHECK.due("no holder", -1, dole.holder(3, 0, 0));
        CHECK.due("no rank", -1, dole.rank(3, 0, 0));
        dole.enter(ENROLLED, 0, 3, 0, 0);
        CHECK.due("citizen 0", 0, dole.holder(3, 0, 0));
        CHECK.due("rank 0", 0, dole.rank(3, 0, 0));
        voidsAre("where it is free", dole, 0, 1, 0, 0, 0, 0);
    }

    private static void enrolledOnlyWhoIsFree() {
        GrainDole dole = new GrainDole();
        dole.enter(ENROLLED, 0, 0, 40, 2);
        dole.enter(ENROLLED, 0, 1, 40, 1);
        CHECK.due("has one", -1, dole.holder(1, 0, 0));
        dole.enter(STRUCK, 0, 0, 0, 0);
        dole.enter(ENROLLED, 0, 1, 40, 1);
        CHECK.due("was struck", 40, dole.holder(1, 0, 0));
        dole.enter(DIED, 0, 40, 0, 0);
        dole.enter(ENROLLED, 0, 2, 40, 1);
        CHECK.due("is dead", -1, dole.holder(2, 0, 0));
        voidsAre("who is free", dole, 0, 1, 0, 0, 0, 1);
    }

    private static void deadOnlyOnce() {
        GrainDole dole = new GrainDole();
        dole.enter(DIED, 0, 0, 0, 0);
        dole.enter(DIED, 0, 0, 0, 0);
        dole.enter(DIED, 0, 99, 0, 0);
        dole.enter(DIED, 0, 99, 0, 0);
        dole.enter(ENROLLED, 0, 5, 0, 0);
        dole.enter(ENROLLED, 0, 5, 1, 0);
        dole.enter(ENROLLED, 0, 6, 2, 0);
        dole.enter(DIED, 0, 1, 0, 0);
        CHECK.due("his place is free", -1, dole.holder(5, 0, 0));
        CHECK.due("another's is not", 2, dole.holder(6, 0, 0));
        voidsAre("once", dole, 0, 1, 0, 1, 1, 0, 0, 0);
    }

    private static void soldOnlyIfSalesAreLet() {
        GrainDole dole = new GrainDole();
        Check.law(dole, 4, "sale yes");
        Check.law(dole, 6, "share 5");
        Check.partTo(dole, 7);
        dole.enter(ENROLLED, 0, 3, 40, 2);
        for (int month = 3; month <= 7; month++) {
            dole.enter(SOLD, month, 3, 50 + month, 0);
        }
        voidsAre("by the law of its month", dole, 0, 1, 0, 0, 1, 1);
        int[] holders = {40, 54, 55, 55, 55};
        for (int month = 3; month <= 7; month++) {
            CHECK.due("holder in " + month, holders[month - 3], dole.holder(3, month, 7));
            CHECK.due("rank in " + month, 2, dole.rank(3, month, 7));
        }
        Check.law(dole, 4, "sale no");
        voidsAre("by a law told later of the same month", dole, 0, 1, 1, 1, 1, 1);
    }

    private static void soldOnlyWhatIsHeld() {
        GrainDole dole = new GrainDole();
        Check.law(dole, 0, "sale yes");
        dole.enter(SOLD, 0, 3, 41, 0);
        CHECK.due("nobody's", -1, dole.holder(3, 0, 0));
        dole.enter(ENROLLED, 0, 3, 40, 3);
        dole.enter(SOLD, 0, 3, 41, 0);
        CHECK.due("sold", 41, dole.holder(3, 0, 0));
        CHECK.due("rank", 3, dole.rank(3, 0, 0));
        dole.enter(STRUCK, 0, 3, 0, 0);
        dole.enter(SOLD, 0, 3, 42, 0);
        CHECK.due("struck", -1, dole.holder(3, 0, 0));
        voidsAre("what is held", dole, 1, 0, 0, 0, 1);
    }

    private static void soldOnlyToWhoIsFree() {
        GrainDole dole = new GrainDole();
        Check.law(dole, 0, "sale yes");
        dole.enter(ENROLLED, 0, 0, 40, 0);
        dole.enter(ENROLLED, 0, 1, 41, 1);
        dole.enter(SOLD, 0, 0, 40, 0);
        dole.enter(SOLD, 0, 0, 41, 0);
        dole.enter(DIED, 0, 42, 0, 0);
        dole.enter(SOLD, 0, 0, 42, 0);
        CHECK.due("not sold", 40, dole.holder(0, 0, 0));
        dole.enter(SOLD, 0, 0, 43, 0);
        CHECK.due("sold", 43, dole.holder(0, 0, 0));
        dole.enter(SOLD, 0, 1, 40, 0);
        CHECK.due("to the seller of another", 40, dole.holder(1, 0, 0));
        CHECK.due("rank it had", 1, dole.rank(1, 0, 0));
        voidsAre("to who is free", dole, 0, 0, 1, 1, 0, 1, 0, 0);
    }

    private static void struckOnlyWhatIsHeld() {
        GrainDole dole = new GrainDole();
        dole.enter(STRUCK, 0, 29, 0, 0);
        dole.enter(ENROLLED, 0, 29, 99, 0);
        dole.enter(ENROLLED, 0, 28, 98, 0);
        dole.enter(STRUCK, 0, 29, 0, 0);
        dole.enter(STRUCK, 0, 29, 0, 0);
        CHECK.due("free", -1, dole.holder(29, 0, 0));
        CHECK.due("another is not", 98, dole.holder(28, 0, 0));
        voidsAre("what is held", dole, 1, 0, 0, 0, 1);
    }

    private static void ofOneMonthByNumbers() {
        GrainDole dole = new GrainDole();
        Check.partTo(dole, 2);
        dole.enter(ENROLLED, 2, 0, 40, 0);
        dole.enter(ENROLLED, 1, 0, 41, 0);
        dole.enter(STRUCK, 1, 0, 0, 0);
        dole.enter(ENROLLED, 1, 0, 42, 0);
        dole.enter(STRUCK, 2, 0, 0, 0);
        dole.enter(STRUCK, 1, 0, 0, 0);
        dole.enter(STRUCK, 0, 0, 0, 0);
        voidsAre("by months, then numbers", dole, 0, 0, 0, 0, 0, 0, 1);
        dole.enter(ENROLLED, 0, 0, 43, 3);
        voidsAre("a late letter", dole, 0, 1, 0, 0, 0, 0, 1, 0);
        CHECK.due("month 0", 43, dole.holder(0, 0, 2));
        CHECK.due("month 1", -1, dole.holder(0, 1, 2));
        CHECK.due("month 2", -1, dole.holder(0, 2, 2));
    }

    private static void allPlacesAndAllCitizens() {
        GrainDole dole = new GrainDole();
        for (int place = 0; place < 30; place++) {
            dole.enter(ENROLLED, 0, place, place, place % 4);
        }
        for (int citizen = 30; citizen < 100; citizen++) {
            dole.enter(ENROLLED, 0, citizen % 30, citizen, 0);
        }
        for (int citizen = 0; citizen < 50; citizen++) {
            dole.enter(DIED, 0, 2 * citizen, 0, 0);
        }
        CHECK.due("entries", Scenes.ENTRIES, dole.count(2));
        for (int place = 0; place < 30; place++) {
            CHECK.due("holder of " + place, place % 2 == 0 ? -1 : place, dole.holder(place, 0, 0));
        }
        for (int entry = 0; entry < Scenes.ENTRIES; entry++) {
            CHECK.due("void " + entry, entry >= 30 && entry < 100 ? 1 : 0, dole.isVoid(entry, 0));
        }
    }

    private static void wrongQuestionsChangeNothing() {
        Twins busy = new Twins(CHECK, Scenes::busy);
        busy.refused("isVoid -1", dole -> dole.isVoid(-1, 3));
        busy.refused("isVoid of what is not there", dole -> dole.isVoid(9, 3));
        busy.refused("isVoid of what is not known", dole -> dole.isVoid(8, 2));
        busy.unchanged("isVoid of what is known", 0, dole -> dole.isVoid(8, 3));
        busy.refused("holder of -1", dole -> dole.holder(-1, 3, 3));
        busy.refused("holder of 30", dole -> dole.holder(30, 3, 3));
        busy.refused("holder in 120", dole -> dole.holder(1, 120, 3));
        busy.refused("rank as known in 120", dole -> dole.rank(1, 3, 120));
        busy.unchanged("holder ahead", 30, dole -> dole.holder(1, 0, 0));
    }
}
