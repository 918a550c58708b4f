/** Promises 10 to 14: ship, room, land, lot, premium. */
public final class StoresTest {
    private static final Check CHECK = new Check();

    public static void main(String[] args) {
        shipsComeUnderContract();
        shipsAreRefused();
        roomIsChanged();
        lotsLand();
        landingIsRefused();
        lotsAreCounted();
        lotsTellOfThemselves();
        cornSpoils();
        dampCornSpoilsSooner();
        spoilByTheLawOfTheMonthParted();
        premiumIsPaid();
        premiumByTheLawOfTheShipsMonth();
        CHECK.finish();
    }

    private static void shipsComeUnderContract() {
        GrainDole dole = new GrainDole();
        for (int k = 0; k < 30; k++) {
            CHECK.due("ship " + k, k, dole.ship(1 + k, k));
        }
        CHECK.due("a 31st", -1, dole.ship(1, 0));
        CHECK.due("ships", 30, dole.count(3));
        CHECK.due("premium of the last", 0, dole.premium(29));
    }

    private static void shipsAreRefused() {
        GrainDole dole = new GrainDole();
        Check.partTo(dole, 2);
        int[][] wrong = {{0, 5}, {-1, 5}, {3001, 5}, {10, 1}, {10, -1}, {10, 120},
            {Integer.MAX_VALUE, 5}, {10, Integer.MIN_VALUE}};
        for (int[] row : wrong) {
            CHECK.due("ship " + row[0] + " " + row[1], -1, dole.ship(row[0], row[1]));
        }
        CHECK.due("least", 0, dole.ship(1, 2));
        CHECK.due("most", 1, dole.ship(3000, 119));
        Check.partTo(dole, 120);
        CHECK.due("the end is come", -1, dole.ship(10, 119));
        CHECK.due("of month 120", -1, dole.ship(10, 120));
        CHECK.due("ships", 2, dole.count(3));
    }

    private static void roomIsChanged() {
        GrainDole dole = new GrainDole();
        dole.ship(3000, 0);
        CHECK.due("was", 1000, dole.room(3, 5000));
        CHECK.due("was", 5000, dole.room(3, 0));
        CHECK.due("was", 0, dole.room(3, 2000));
        CHECK.due("land", 1500, dole.land(0, 3, 1500, false));
        CHECK.due("less than lies there", -1, dole.room(3, 1499));
        CHECK.due("above", -1, dole.room(3, 5001));
        CHECK.due("below", -1, dole.room(2, -1));
        CHECK.due("nothing happened", 2000, dole.room(3, 1500));
        CHECK.due("was", 1500, dole.room(3, 1600));
        int[] wrong = {-1, 4, Integer.MIN_VALUE, Integer.MAX_VALUE};
        for (int granary : wrong) {
            CHECK.due("granary " + granary, -1, dole.room(granary, 100));
        }
        CHECK.due("others are as at first", 1000, dole.room(0, 1000));
    }

    private static void lotsLand() {
        GrainDole dole = new GrainDole();
        dole.ship(10, 0);
        CHECK.due("more than the contract", 600, dole.land(0, 0, 600, false));
        CHECK.due("as far as room lets", 400, dole.land(0, 0, 3000, true));
        CHECK.due("no room", 0, dole.land(0, 0, 1, false));
        CHECK.due("lots", 2, dole.count(4));
        CHECK.due("room in another", 1, dole.land(0, 1, 1, false));
        CHECK.due("lies in 0", 1000, dole.count(10));
        CHECK.due("lies in 1", 1, dole.count(11));
        CHECK.due("in all", 1001, dole.count(6));
        dole.room(0, 1100);
        CHECK.due("more room", 100, dole.land(0, 0, 200, false));
    }

    private static void landingIsRefused() {
        GrainDole dole = new GrainDole();
        CHECK.due("no ship", -1, dole.land(0, 0, 1, false));
        dole.ship(10, 0);
        int[][] wrong = {{-1, 0, 1}, {1, 0, 1}, {0, -1, 1}, {0, 4, 1}, {0, 0, 0}, {0, 0, -1}, {0, 0, 3001},
            {Integer.MAX_VALUE, 0, 1}, {0, Integer.MIN_VALUE, 1}, {0, 0, Integer.MAX_VALUE}};
        for (int[] row : wrong) {
            CHECK.due("land " + row[0] + " " + row[1] + " " + row[2], -1, dole.land(row[0], row[1], row[2], false));
        }
        CHECK.due("lots", 0, dole.count(4));
        Check.partTo(dole, 119);
        CHECK.due("behind the ship's month", 5, dole.land(0, 0, 5, false));
        Check.partTo(dole, 120);
        CHECK.due("the end is come", -1, dole.land(0, 0, 5, false));
        CHECK.due("lots", 1, dole.count(4));
    }

    private static void lotsAreCounted() {
        GrainDole dole = new GrainDole();
        dole.ship(10, 0);
        for (int k = 0; k < 100; k++) {
            CHECK.due("lot " + k, 1, dole.land(0, k % 4, 1, false));
        }
        CHECK.due("a 101st", -1, dole.land(0, 0, 1, false));
        dole.room(0, 25);
        CHECK.due("a 101st without room", -1, dole.land(0, 0, 1, false));
        CHECK.due("lots", 100, dole.count(4));
        CHECK.due("lies", 25, dole.count(13));
    }

    private static void lotsTellOfThemselves() {
        GrainDole dole = new GrainDole();
        dole.ship(10, 0);
        dole.ship(20, 3);
        Check.partTo(dole, 2);
        dole.room(2, 70);
        dole.land(1, 2, 99, true);
        dole.enter(0, 2, 8, 9, 0);
        dole.show(8, 0, 0);
        dole.part();
        int[] want = {1, 2, 2, 70, 65, 0, -1};
        for (int what = 0; what < want.length; what++) {
            CHECK.due("lot 0, " + what, want[what], dole.lot(0, what));
        }
        Check.partTo(dole, 10);
        int[] gone = {1, 2, 2, 70, 0, 65};
        for (int what = 0; what < gone.length; what++) {
            CHECK.due("spoilt lot 0, " + what, gone[what], dole.lot(0, what));
        }
        int[] wrong = {-1, 6, Integer.MIN_VALUE, Integer.MAX_VALUE};
        for (int what : wrong) {
            CHECK.due("what " + what, -1, dole.lot(0, what));
            CHECK.due("lot " + what, -1, dole.lot(what, 0));
        }
        CHECK.due("lot 1", -1, dole.lot(1, 0));
    }

    private static void cornSpoils() {
        GrainDole dole = new GrainDole();
        dole.ship(10, 119);
        dole.land(0, 0, 10, false);
        dole.land(0, 0, 20, true);
        Check.partTo(dole, 7);
        CHECK.due("month 6", 0, dole.month(6, 3));
        CHECK.due("both", 30, dole.count(6));
        dole.part();
        CHECK.due("damp in month 7", 20, dole.month(7, 3));
        CHECK.due("behind it", 10, dole.month(7, 4));
        Check.partTo(dole, 13);
        CHECK.due("lies still", 10, dole.lot(0, 4));
        dole.part();
        CHECK.due("month 13", 10, dole.month(13, 3));
        CHECK.due("thrown out", 10, dole.lot(0, 5));
        CHECK.due("none is there", 0, dole.count(6));
        dole.part();
        CHECK.due("not twice", 0, dole.month(14, 3));
        CHECK.due("not twice", 10, dole.lot(0, 5));
    }

    private static void dampCornSpoilsSooner() {
        GrainDole dole = new GrainDole();
        Check.law(dole, 0, "spoil 1;damp 2");
        dole.ship(10, 119);
        dole.land(0, 0, 10, false);
        dole.land(0, 0, 20, true);
        dole.part();
        CHECK.due("landed in it", 0, dole.month(0, 3));
        dole.part();
        CHECK.due("damp: not below 0", 20, dole.month(1, 3));
        dole.part();
        CHECK.due("dry", 10, dole.month(2, 3));
    }

    private static void spoilByTheLawOfTheMonthParted() {
        GrainDole dole = new GrainDole();
        Check.law(dole, 0, "spoil 0");
        Check.law(dole, 1, "spoil 5");
        Check.law(dole, 4, "spoil 2");
        dole.ship(10, 119);
        dole.land(0, 0, 10, false);
        Check.partTo(dole, 4);
        CHECK.due("lies still", 10, dole.count(6));
        dole.land(0, 1, 7, false);
        Check.law(dole, 4, "spoil 4");
        dole.part();
        CHECK.due("as known in it", 17, dole.count(6));
        Check.law(dole, 4, "spoil 3");
        dole.part();
        CHECK.due("thrown", 10, dole.month(5, 3));
        CHECK.due("rest", 7, dole.count(11));
    }

    private static void premiumIsPaid() {
        GrainDole dole = new GrainDole();
        Check.law(dole, 0, "premium 15");
        dole.ship(101, 1);
        dole.ship(101, 1);
        dole.ship(100, 1);
        dole.ship(100, 1);
        dole.ship(100, 1);
        dole.land(0, 0, 50, false);
        dole.land(1, 0, 51, false);
        dole.land(2, 0, 30, false);
        dole.land(3, 1, 400, true);
        dole.land(4, 2, 49, false);
        dole.part();
        dole.land(2, 0, 20, false);
        for (int k = 0; k < 5; k++) {
            CHECK.due("not parted yet " + k, 0, dole.premium(k));
        }
        dole.part();
        dole.land(4, 2, 51, false);
        dole.land(2, 2, 51, false);
        CHECK.due("less than half", 0, dole.premium(0));
        CHECK.due("downwards", 7, dole.premium(1));
        CHECK.due("just half, in two", 7, dole.premium(2));
        CHECK.due("the contract's at most", 15, dole.premium(3));
        CHECK.due("too late", 0, dole.premium(4));
        int[] wrong = {-1, 5, 30, Integer.MIN_VALUE, Integer.MAX_VALUE};
        for (int ship : wrong) {
            CHECK.due("ship " + ship, -1, dole.premium(ship));
        }
        Check.partTo(dole, 120);
        CHECK.due("at the end", 15, dole.premium(3));
    }

    private static void premiumByTheLawOfTheShipsMonth() {
        GrainDole dole = new GrainDole();
        Check.law(dole, 2, "premium 10");
        Check.law(dole, 3, "premium 90");
        dole.ship(100, 2);
        dole.land(0, 0, 100, false);
        Check.partTo(dole, 2);
        CHECK.due("its month is not parted", 0, dole.premium(0));
        dole.part();
        CHECK.due("law of month 2", 10, dole.premium(0));
        Check.law(dole, 1, "premium 70");
        CHECK.due("law of month 2", 10, dole.premium(0));
        Check.law(dole, 2, "premium 100");
        CHECK.due("as known now", 100, dole.premium(0));
    }
}
