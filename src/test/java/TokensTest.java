/** Promises 15 to 17: swear, show, frauds. */
public final class TokensTest {
    private static final Check CHECK = new Check();

    public static void main(String[] args) {
        swearing();
        showing();
        secondTokens();
        theLeastReasonCounts();
        theListAtThatTime();
        fraudsAreCountedByGates();
        aNewMonthForgets();
        atTheEnd();
        CHECK.finish();
    }

    private static GrainDole withPlaces(int places) {
        GrainDole dole = new GrainDole();
        for (int place = 0; place < places; place++) {
            dole.enter(0, 0, place, 50 + place, 0);
        }
        return dole;
    }

    private static void swearing() {
        GrainDole dole = withPlaces(1);
        int[] wrong = {-1, 30, Integer.MIN_VALUE, Integer.MAX_VALUE};
        for (int place : wrong) {
            CHECK.due("swear " + place, false, dole.swear(place));
        }
        CHECK.due("held", true, dole.swear(0));
        CHECK.due("again", false, dole.swear(0));
        CHECK.due("free", true, dole.swear(29));
        CHECK.due("again", false, dole.swear(29));
        dole.part();
        CHECK.due("in the next month", true, dole.swear(0));
    }

    private static void showing() {
        GrainDole dole = withPlaces(2);
        CHECK.due("good", 0, dole.show(0, 0, 0));
        CHECK.due("again", 3, dole.show(0, 0, 0));
        CHECK.due("at another gate", 3, dole.show(0, 0, 3));
        CHECK.due("no second one", 2, dole.show(1, 1, 1));
        CHECK.due("good still", 0, dole.show(1, 0, 1));
        CHECK.due("nobody", 1, dole.show(2, 0, 1));
        int[][] wrong = {{-1, 0, 0}, {30, 0, 0}, {0, -1, 0}, {0, 2, 0}, {0, 0, -1}, {0, 0, 4},
            {Integer.MAX_VALUE, 0, 0}, {0, Integer.MIN_VALUE, 0}, {0, 0, Integer.MAX_VALUE}};
        for (int[] row : wrong) {
            CHECK.due("show " + row[0] + " " + row[1] + " " + row[2], -1, dole.show(row[0], row[1], row[2]));
        }
    }

    private static void secondTokens() {
        GrainDole dole = withPlaces(3);
        dole.swear(0);
        CHECK.due("void", 2, dole.show(0, 0, 0));
        CHECK.due("second", 0, dole.show(0, 1, 0));
        CHECK.due("second again", 3, dole.show(0, 1, 0));
        CHECK.due("void still", 2, dole.show(0, 0, 0));
        CHECK.due("first", 0, dole.show(1, 0, 0));
        dole.swear(1);
        CHECK.due("first was shown ahead of the oath", 3, dole.show(1, 1, 0));
        CHECK.due("void", 2, dole.show(1, 0, 0));
        CHECK.due("no second one", 2, dole.show(2, 1, 0));
        dole.swear(2);
        CHECK.due("what was not good is of no matter", 0, dole.show(2, 1, 0));
    }

    private static void theLeastReasonCounts() {
        GrainDole dole = withPlaces(1);
        CHECK.due("nobody, no second", 1, dole.show(5, 1, 0));
        dole.show(0, 0, 0);
        CHECK.due("no second, shown", 2, dole.show(0, 1, 0));
        dole.enter(3, 0, 0, 0, 0);
        CHECK.due("nobody, shown", 1, dole.show(0, 0, 0));
        CHECK.due("nobody, no second, shown", 1, dole.show(0, 1, 0));
    }

    private static void theListAtThatTime() {
        GrainDole dole = new GrainDole();
        CHECK.due("nobody yet", 1, dole.show(4, 0, 0));
        dole.enter(0, 0, 4, 7, 0);
        CHECK.due("enrolled", 0, dole.show(4, 0, 0));
        dole.part();
        dole.part();
        dole.enter(1, 1, 7, 0, 0);
        CHECK.due("a late letter", 1, dole.show(4, 0, 0));
        dole.enter(0, 2, 4, 8, 0);
        CHECK.due("another", 0, dole.show(4, 0, 0));
        dole.enter(3, 2, 4, 0, 0);
        dole.enter(0, 2, 4, 9, 0);
        CHECK.due("of one place, whoever holds it", 3, dole.show(4, 0, 0));
    }

    private static void fraudsAreCountedByGates() {
        GrainDole dole = withPlaces(1);
        dole.show(0, 0, 2);
        CHECK.due("good ones do not count", 0, dole.frauds(2));
        dole.show(0, 0, 2);
        dole.show(0, 1, 2);
        dole.show(9, 0, 2);
        dole.show(9, 0, 1);
        dole.show(0, 7, 2);
        dole.show(30, 0, 2);
        int[] want = {0, 1, 3, 0};
        for (int gate = 0; gate < 4; gate++) {
            CHECK.due("gate " + gate, want[gate], dole.frauds(gate));
        }
        int[] wrong = {-1, 4, Integer.MIN_VALUE, Integer.MAX_VALUE};
        for (int gate : wrong) {
            CHECK.due("gate " + gate, -1, dole.frauds(gate));
        }
    }

    private static void aNewMonthForgets() {
        GrainDole dole = withPlaces(1);
        dole.swear(0);
        dole.show(0, 1, 0);
        dole.show(0, 1, 0);
        dole.part();
        CHECK.due("frauds", 0, dole.frauds(0));
        CHECK.due("no second one", 2, dole.show(0, 1, 0));
        CHECK.due("the first is good", 0, dole.show(0, 0, 0));
        CHECK.due("frauds of this month", 1, dole.frauds(0));
    }

    private static void atTheEnd() {
        GrainDole dole = withPlaces(1);
        Check.partTo(dole, 119);
        CHECK.due("in the last month", 1, dole.show(1, 0, 0));
        CHECK.due("in the last month", 0, dole.show(0, 0, 0));
        CHECK.due("in the last month", true, dole.swear(0));
        Check.partTo(dole, 120);
        CHECK.due("show", -1, dole.show(0, 0, 0));
        CHECK.due("swear", false, dole.swear(0));
        CHECK.due("frauds", 0, dole.frauds(0));
    }
}
