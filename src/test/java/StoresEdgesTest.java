import java.util.Arrays;

/** The edges of promises 10 to 14: ship, room, land, lot, premium. */
public final class StoresEdgesTest {
    private static final Check CHECK = new Check();

    public static void main(String[] args) {
        shipsUpTo30();
        shipsOf1To3000Measures();
        shipsNotAheadOfNow();
        shipsAreRefusedAndChangeNothing();
        roomsFrom0To5000();
        roomNotBelowWhatLiesThere();
        granariesFrom0To3();
        roomIsRefusedAndChangesNothing();
        lotsOf1To3000Measures();
        lotsAsFarAsRoomLets();
        noLotComesWithoutRoom();
        lotsUpTo100();
        lotsOfShipsThatAreThere();
        landingIsRefusedAndChangesNothing();
        landingUpToTheEnd();
        landingMoreThanTheContract();
        lotsThatCanBeAsked();
        lotsSpentAndLotsThrownOut();
        wrongQuestionsChangeNothing();
        CHECK.finish();
    }

    private static GrainDole withShip() {
        GrainDole dole = new GrainDole();
        dole.ship(3000, 119);
        return dole;
    }

    private static void shipsUpTo30() {
        GrainDole dole = new GrainDole();
        for (int k = 0; k < Scenes.SHIPS; k++) {
            CHECK.due("ship " + k, k, dole.ship(10, 119));
            CHECK.due("ships", k + 1, dole.count(3));
        }
        CHECK.due("a 31st", -1, dole.ship(10, 119));
        CHECK.due("ships", Scenes.SHIPS, dole.count(3));
        CHECK.due("the last lands", 7, dole.land(29, 0, 7, false));
        CHECK.due("no 31st lands", -1, dole.land(30, 0, 7, false));
        CHECK.due("its lot", 29, dole.lot(0, 0));
    }

    private static void shipsOf1To3000Measures() {
        for (int measures = -3; measures <= 3003; measures++) {
            GrainDole dole = new GrainDole();
            boolean is = measures >= 1 && measures <= 3000;
            CHECK.due("ship of " + measures, is ? 0 : -1, dole.ship(measures, 0));
            CHECK.due("ships", is ? 1 : 0, dole.count(3));
        }
    }

    private static void shipsNotAheadOfNow() {
        int[] nows = {0, 1, 60, 118, 119, 120};
        for (int now : nows) {
            for (int month = -2; month <= 122; month++) {
                GrainDole dole = new GrainDole();
                Check.partTo(dole, now);
                boolean is = month >= now && month <= 119;
                CHECK.due("in " + now + ", ship by " + month, is ? 0 : -1, dole.ship(10, month));
                CHECK.due("ships", is ? 1 : 0, dole.count(3));
            }
        }
    }

    private static void shipsAreRefusedAndChangeNothing() {
        Twins busy = new Twins(CHECK, Scenes::busy);
        int[][] wrong = {{0, 5}, {-1, 5}, {3001, 5}, {10, 2}, {10, -1}, {10, 120}, {10, 121}};
        for (int[] row : wrong) {
            busy.refused("ship " + Arrays.toString(row), dole -> dole.ship(row[0], row[1]));
        }
        for (int n : Scenes.FAR) {
            busy.refused("ship of " + n, dole -> dole.ship(n, 5));
            busy.refused("ship by " + n, dole -> dole.ship(10, n));
        }
        new Twins(CHECK, Scenes::full).refused("a 31st ship", dole -> dole.ship(10, 5));
        Twins over = new Twins(CHECK, Scenes::over);
        over.refused("ship at the end", dole -> dole.ship(10, 119));
        over.refused("ship at the end by 120", dole -> dole.ship(10, 120));
    }

    private static void roomsFrom0To5000() {
        for (int granary = 0; granary < 4; granary++) {
            GrainDole dole = new GrainDole();
            CHECK.due("at first", 1000, dole.room(granary, 0));
            CHECK.due("was 0", 0, dole.room(granary, 5000));
            CHECK.due("5001", -1, dole.room(granary, 5001));
            CHECK.due("-1", -1, dole.room(granary, -1));
            CHECK.due("was 5000", 5000, dole.room(granary, 1));
            CHECK.due("was 1", 1, dole.room(granary, 4999));
            CHECK.due("was 4999", 4999, dole.room(granary, 4999));
            for (int other = 0; other < 4; other++) {
                if (other != granary) {
                    CHECK.due("another", 1000, dole.room(other, 1000));
                }
            }
        }
    }

    private static void roomNotBelowWhatLiesThere() {
        for (int granary = 0; granary < 4; granary++) {
            GrainDole dole = withShip();
            dole.land(0, granary, 70, false);
            dole.land(0, granary, 30, true);
            dole.land(0, (granary + 1) % 4, 500, false);
            CHECK.due("99", -1, dole.room(granary, 99));
            CHECK.due("0", -1, dole.room(granary, 0));
            CHECK.due("100", 1000, dole.room(granary, 100));
            CHECK.due("no room", 0, dole.land(0, granary, 1, false));
            CHECK.due("99", -1, dole.room(granary, 99));
            CHECK.due("101", 100, dole.room(granary, 101));
            CHECK.due("room for one", 1, dole.land(0, granary, 2, false));
        }
        GrainDole dole = withShip();
        dole.enter(0, 0, 0, 0, 0);
        dole.land(0, 0, 10, false);
        dole.show(0, 0, 0);
        dole.part();
        CHECK.due("less than lies there still", -1, dole.room(0, 4));
        CHECK.due("what lies there still", 1000, dole.room(0, 5));
        Check.partTo(dole, 14);
        CHECK.due("all was thrown out", 5, dole.room(0, 0));
        CHECK.due("no room at all", 0, dole.land(0, 0, 1, false));
    }

    private static void granariesFrom0To3() {
        for (int granary = -5; granary <= 20; granary++) {
            GrainDole dole = withShip();
            boolean is = granary >= 0 && granary <= 3;
            CHECK.due("room of " + granary, is ? 1000 : -1, dole.room(granary, 2000));
            CHECK.due("land in " + granary, is ? 1500 : -1, dole.land(0, granary, 1500, false));
            CHECK.due("lies there", is ? 1500 : -1, is ? dole.count(10 + granary) : -1);
            CHECK.due("lies in all", is ? 1500 : 0, dole.count(6));
            CHECK.due("the lot's", is ? granary : -1, dole.lot(0, 1));
        }
    }

    private static void roomIsRefusedAndChangesNothing() {
        Twins busy = new Twins(CHECK, Scenes::busy);
        int[][] wrong = {{-1, 100}, {4, 100}, {0, -1}, {0, 5001}, {3, 19}, {3, 0}, {3, -1}};
        for (int[] row : wrong) {
            busy.refused("room " + Arrays.toString(row), dole -> dole.room(row[0], row[1]));
        }
        busy.unchanged("room as it was", 500, dole -> dole.room(3, 500));
        for (int n : Scenes.FAR) {
            busy.refused("room of " + n, dole -> dole.room(n, 100));
            busy.refused("room for " + n, dole -> dole.room(0, n));
        }
    }

    private static void lotsOf1To3000Measures() {
        for (int measures = -3; measures <= 3003; measures++) {
            GrainDole dole = withShip();
            dole.room(0, 5000);
            boolean is = measures >= 1 && measures <= 3000;
            CHECK.due("land " + measures, is ? measures : -1, dole.land(0, 0, measures, false));
            CHECK.due("lots", is ? 1 : 0, dole.count(4));
            CHECK.due("lies", is ? measures : 0, dole.count(10));
            CHECK.due("landed", is ? measures : -1, dole.lot(0, 3));
        }
    }

    private static void lotsAsFarAsRoomLets() {
        int[] rooms = {1, 2, 999, 1000, 2999, 3000, 3001, 5000};
        for (int room : rooms) {
            int[] wanted = {1, 2, 998, 999, 1000, 1001, 2999, 3000};
            for (int measures : wanted) {
                GrainDole dole = withShip();
                dole.room(2, room);
                int first = Math.min(room, measures);
                CHECK.due("room " + room + ", land " + measures, first, dole.land(0, 2, measures, true));
                CHECK.due("landed", first, dole.lot(0, 3));
                CHECK.due("lies", first, dole.count(12));
                int then = Math.min(room - first, 3000);
                CHECK.due("land then", then, dole.land(0, 2, 3000, false));
                CHECK.due("lots", then > 0 ? 2 : 1, dole.count(4));
                CHECK.due("landed then", then > 0 ? then : -1, dole.lot(1, 3));
            }
        }
    }

    private static void noLotComesWithoutRoom() {
        GrainDole dole = withShip();
        dole.room(1, 0);
        for (int k = 0; k < Scenes.LOTS + 5; k++) {
            CHECK.due("no room", 0, dole.land(0, 1, 1, false));
        }
        CHECK.due("lots", 0, dole.count(4));
        CHECK.due("no lot", -1, dole.lot(0, 0));
        CHECK.due("elsewhere", 1, dole.land(0, 0, 1, false));
        CHECK.due("it is the first", 0, dole.lot(0, 1));
        Twins busy = new Twins(CHECK, () -> {
            GrainDole made = Scenes.busy();
            made.room(3, 20);
            return made;
        });
        busy.unchanged("land without room", 0, made -> made.land(0, 3, 3000, true));
        busy.unchanged("land one without room", 0, made -> made.land(0, 3, 1, false));
        busy.refused("land none without room", made -> made.land(0, 3, 0, false));
        busy.refused("land too much without room", made -> made.land(0, 3, 3001, false));
    }

    private static void lotsUpTo100() {
        GrainDole dole = withShip();
        for (int k = 0; k < Scenes.LOTS; k++) {
            CHECK.due("lot " + k, 2, dole.land(0, k % 4, 2, false));
            CHECK.due("lots", k + 1, dole.count(4));
        }
        CHECK.due("a 101st", -1, dole.land(0, 0, 2, false));
        CHECK.due("lots", Scenes.LOTS, dole.count(4));
        CHECK.due("lies", 50, dole.count(10));
        CHECK.due("the last", 3, dole.lot(99, 1));
        CHECK.due("no 101st", -1, dole.lot(100, 1));
        Check.partTo(dole, 14);
        CHECK.due("all is thrown out", 0, dole.count(6));
        CHECK.due("lots are still 100", -1, dole.land(0, 0, 2, false));
        dole.room(0, 0);
        CHECK.due("without room, too", -1, dole.land(0, 0, 2, false));
    }

    private static void lotsOfShipsThatAreThere() {
        for (int ships = 0; ships <= 3; ships++) {
            for (int ship = -3; ship <= 33; ship++) {
                GrainDole dole = new GrainDole();
                for (int k = 0; k < ships; k++) {
                    dole.ship(10, 0);
                }
                boolean is = ship >= 0 && ship < ships;
                CHECK.due("of " + ships + " ships " + ship + " lands", is ? 5 : -1, dole.land(ship, 0, 5, false));
                CHECK.due("its lot's ship", is ? ship : -1, dole.lot(0, 0));
            }
        }
    }

    private static void landingIsRefusedAndChangesNothing() {
        Twins busy = new Twins(CHECK, Scenes::busy);
        int[][] wrong = {{-1, 0, 5}, {2, 0, 5}, {0, -1, 5}, {0, 4, 5}, {0, 0, 0}, {0, 0, -1}, {0, 0, 3001}};
        for (int[] row : wrong) {
            busy.refused("land " + Arrays.toString(row), dole -> dole.land(row[0], row[1], row[2], true));
        }
        for (int n : Scenes.FAR) {
            busy.refused("land of " + n, dole -> dole.land(n, 0, 5, false));
            busy.refused("land in " + n, dole -> dole.land(0, n, 5, false));
            busy.refused("land so much as " + n, dole -> dole.land(0, 0, n, false));
        }
        new Twins(CHECK, Scenes::full).refused("a 101st lot", dole -> dole.land(0, 0, 5, false));
        new Twins(CHECK, Scenes::over).refused("land at the end", dole -> dole.land(0, 0, 5, false));
    }

    private static void landingUpToTheEnd() {
        GrainDole dole = new GrainDole();
        dole.ship(10, 0);
        Check.partTo(dole, Scenes.LAST_MONTH);
        CHECK.due("in month 119", 5, dole.land(0, 0, 5, false));
        CHECK.due("its month", 119, dole.lot(0, 2));
        dole.part();
        CHECK.due("at the end", -1, dole.land(0, 0, 5, false));
        CHECK.due("lies there still", 5, dole.count(6));
        CHECK.due("lots", 1, dole.count(4));
    }

    private static void landingMoreThanTheContract() {
        GrainDole dole = new GrainDole();
        dole.ship(1, 0);
        dole.room(0, 5000);
        CHECK.due("the contract's", 1, dole.land(0, 0, 1, false));
        CHECK.due("more", 3000, dole.land(0, 0, 3000, false));
        dole.part();
        CHECK.due("behind its month, too", 1999, dole.land(0, 0, 3000, false));
        CHECK.due("lots", 3, dole.count(4));
    }

    private static void lotsThatCanBeAsked() {
        GrainDole dole = withShip();
        CHECK.due("of none", -1, dole.lot(0, 0));
        dole.ship(10, 5);
        dole.part();
        dole.land(1, 3, 11, true);
        dole.part();
        dole.land(0, 2, 22, false);
        int[][] facts = {{1, 3, 1, 11, 11, 0}, {0, 2, 2, 22, 22, 0}};
        for (int k = -2; k <= 3; k++) {
            for (int what = -3; what <= 14; what++) {
                boolean is = k >= 0 && k < 2 && what >= 0 && what < 6;
                CHECK.due("lot " + k + " " + what, is ? facts[k][what] : -1, dole.lot(k, what));
            }
        }
        for (int n : Scenes.FAR) {
            CHECK.due("lot " + n, -1, dole.lot(n, 0));
            CHECK.due("lot 0, what " + n, -1, dole.lot(0, n));
        }
    }

    private static void lotsSpentAndLotsThrownOut() {
        GrainDole dole = withShip();
        Check.law(dole, 0, "share 4; spoil 1");
        dole.enter(0, 0, 0, 0, 0);
        dole.land(0, 0, 4, false);
        dole.land(0, 1, 5, false);
        dole.show(0, 0, 0);
        dole.part();
        int[][] then = {{4, 0, 0}, {5, 5, 0}};
        factsAre(dole, then);
        dole.show(0, 0, 0);
        dole.part();
        int[][] later = {{4, 0, 0}, {5, 1, 0}};
        factsAre(dole, later);
        dole.part();
        int[][] last = {{4, 0, 0}, {5, 0, 1}};
        factsAre(dole, last);
        dole.part();
        factsAre(dole, last);
    }

    /** Of each lot the measures landed, those that lie there still, and those thrown out. */
    private static void factsAre(GrainDole dole, int[][] facts) {
        for (int k = 0; k < facts.length; k++) {
            for (int i = 0; i < 3; i++) {
                CHECK.due("lot " + k + " " + (3 + i), facts[k][i], dole.lot(k, 3 + i));
            }
        }
    }

    private static void wrongQuestionsChangeNothing() {
        Twins busy = new Twins(CHECK, Scenes::busy);
        busy.refused("lot -1", dole -> dole.lot(-1, 0));
        busy.refused("lot 4", dole -> dole.lot(4, 0));
        busy.refused("lot 0, what 6", dole -> dole.lot(0, 6));
        busy.refused("premium -1", dole -> dole.premium(-1));
        busy.refused("premium 2", dole -> dole.premium(2));
    }
}
