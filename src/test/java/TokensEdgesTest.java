import java.util.Arrays;

/** The edges of promises 15 to 17: swear, show, frauds. */
public final class TokensEdgesTest {
    private static final Check CHECK = new Check();

    public static void main(String[] args) {
        placesThatSwear();
        swornOnceInAMonth();
        refusedOathsChangeNothing();
        oathsUpToTheEnd();
        placesThatShow();
        tokens0And1();
        gatesFrom0To3();
        refusedShowingsChangeNothing();
        badShowingsCountAtTheirGateAlone();
        goodShowingsCountAtNoGate();
        theFirstTokenAndTheOath();
        theSecondTokenAndTheOath();
        nobodyHoldsThePlace();
        shownGoodAlready();
        theLeastReason();
        gatesThatCanBeAsked();
        fraudsOfThisMonth();
        showingsUpToTheEnd();
        CHECK.finish();
    }

    private static GrainDole withAllPlaces() {
        GrainDole dole = new GrainDole();
        for (int place = 0; place < 30; place++) {
            dole.enter(0, 0, place, place, 0);
        }
        return dole;
    }

    private static void placesThatSwear() {
        GrainDole dole = new GrainDole();
        for (int place = -40; place <= 140; place++) {
            CHECK.due("swear " + place, place >= 0 && place < 30, dole.swear(place));
        }
        for (int place : Scenes.FAR) {
            CHECK.due("swear " + place, false, dole.swear(place));
        }
    }

    private static void swornOnceInAMonth() {
        GrainDole dole = withAllPlaces();
        for (int m = 0; m < 3; m++) {
            for (int place = 0; place < 30; place++) {
                CHECK.due("swear " + place, true, dole.swear(place));
            }
            for (int place = 0; place < 30; place++) {
                CHECK.due("swear again " + place, false, dole.swear(place));
            }
            dole.part();
        }
    }

    private static void refusedOathsChangeNothing() {
        Twins busy = new Twins(CHECK, Scenes::busy);
        int[] wrong = {-1, 30, 1, 4};
        for (int place : wrong) {
            busy.unchanged("swear " + place, 0, dole -> dole.swear(place) ? 1 : 0);
        }
        for (int place : Scenes.FAR) {
            busy.unchanged("swear " + place, 0, dole -> dole.swear(place) ? 1 : 0);
        }
        Twins over = new Twins(CHECK, Scenes::over);
        over.unchanged("swear at the end", 0, dole -> dole.swear(0) ? 1 : 0);
        over.unchanged("swear at the end again", 0, dole -> dole.swear(1) ? 1 : 0);
    }

    private static void oathsUpToTheEnd() {
        GrainDole dole = new GrainDole();
        Check.partTo(dole, Scenes.LAST_MONTH);
        CHECK.due("in month 119", true, dole.swear(0));
        dole.part();
        for (int place = 0; place < 30; place++) {
            CHECK.due("at the end", false, dole.swear(place));
        }
    }

    private static void placesThatShow() {
        GrainDole dole = withAllPlaces();
        for (int place = -40; place <= 140; place++) {
            CHECK.due("show " + place, place >= 0 && place < 30 ? 0 : -1, dole.show(place, 0, 0));
        }
        CHECK.due("frauds", 0, dole.frauds(0));
    }

    private static void tokens0And1() {
        for (int token = -20; token <= 20; token++) {
            GrainDole dole = withAllPlaces();
            CHECK.due("token " + token, token == 0 ? 0 : token == 1 ? 2 : -1, dole.show(7, token, 0));
            CHECK.due("frauds", token == 1 ? 1 : 0, dole.frauds(0));
        }
    }

    private static void gatesFrom0To3() {
        for (int gate = -20; gate <= 40; gate++) {
            GrainDole dole = withAllPlaces();
            boolean is = gate >= 0 && gate <= 3;
            CHECK.due("gate " + gate, is ? 0 : -1, dole.show(7, 0, gate));
            CHECK.due("gate " + gate + " again", is ? 3 : -1, dole.show(7, 0, gate));
            for (int other = 0; other < 4; other++) {
                CHECK.due("frauds at " + other, other == gate ? 1 : 0, dole.frauds(other));
            }
        }
    }

    private static void refusedShowingsChangeNothing() {
        Twins busy = new Twins(CHECK, Scenes::busy);
        int[][] wrong = {{-1, 0, 0}, {30, 0, 0}, {3, -1, 0}, {3, 2, 0}, {3, 0, -1}, {3, 0, 4}, {9, 0, 4}, {9, 2, 0}};
        for (int[] row : wrong) {
            busy.refused("show " + Arrays.toString(row), dole -> dole.show(row[0], row[1], row[2]));
        }
        for (int n : Scenes.FAR) {
            busy.refused("show of place " + n, dole -> dole.show(n, 0, 0));
            busy.refused("show of token " + n, dole -> dole.show(3, n, 0));
            busy.refused("show at gate " + n, dole -> dole.show(3, 0, n));
        }
        Twins over = new Twins(CHECK, Scenes::over);
        over.refused("show at the end", dole -> dole.show(3, 0, 0));
        over.refused("show at the end for nobody", dole -> dole.show(9, 0, 0));
        over.refused("show a second one at the end", dole -> dole.show(3, 1, 0));
    }

    private static void badShowingsCountAtTheirGateAlone() {
        Twins busy = new Twins(CHECK, Scenes::busy);
        for (int g = 0; g < 4; g++) {
            int gate = g;
            busy.sameAs("no second one", 2, dole -> dole.show(3, 1, gate), dole -> dole.show(29, 0, gate));
            busy.sameAs("void", 2, dole -> dole.show(1, 0, gate), dole -> dole.show(29, 0, gate));
            busy.sameAs("again", 3, dole -> dole.show(1, 1, gate), dole -> dole.show(29, 0, gate));
            busy.sameAs("nobody", 1, dole -> dole.show(0, 0, gate), dole -> dole.show(29, 1, gate));
            GrainDole dole = Scenes.busy();
            int before = dole.frauds(gate);
            dole.show(29, 0, gate);
            CHECK.due("one more at gate " + gate, before + 1, dole.frauds(gate));
        }
    }

    private static void goodShowingsCountAtNoGate() {
        Twins busy = new Twins(CHECK, Scenes::busy);
        for (int g = 0; g < 4; g++) {
            int gate = g;
            busy.sameAs("good at " + gate, 0, dole -> dole.show(3, 0, gate), dole -> dole.show(3, 0, 0));
            GrainDole dole = Scenes.busy();
            int before = dole.frauds(gate);
            dole.show(3, 0, gate);
            CHECK.due("none more at gate " + gate, before, dole.frauds(gate));
        }
    }

    private static void theFirstTokenAndTheOath() {
        GrainDole dole = withAllPlaces();
        CHECK.due("ahead of the oath", 0, dole.show(0, 0, 0));
        CHECK.due("ahead of the oath, again", 3, dole.show(0, 0, 0));
        dole.swear(0);
        CHECK.due("behind it", 2, dole.show(0, 0, 0));
        CHECK.due("another place's", 0, dole.show(1, 0, 0));
        dole.part();
        CHECK.due("in the next month", 0, dole.show(0, 0, 0));
    }

    private static void theSecondTokenAndTheOath() {
        GrainDole dole = withAllPlaces();
        CHECK.due("ahead of the oath", 2, dole.show(0, 1, 0));
        dole.swear(0);
        CHECK.due("another place's", 2, dole.show(1, 1, 0));
        CHECK.due("behind it", 0, dole.show(0, 1, 0));
        CHECK.due("behind it, again", 3, dole.show(0, 1, 0));
        dole.part();
        CHECK.due("in the next month", 2, dole.show(0, 1, 0));
        dole.show(2, 0, 0);
        dole.swear(2);
        CHECK.due("the first was good already", 3, dole.show(2, 1, 0));
        dole.swear(3);
        CHECK.due("the first when void", 2, dole.show(3, 0, 0));
        CHECK.due("is not good already", 0, dole.show(3, 1, 0));
    }

    private static void nobodyHoldsThePlace() {
        GrainDole dole = new GrainDole();
        for (int place = 0; place < 30; place++) {
            CHECK.due("nobody holds " + place, 1, dole.show(place, 0, 1));
        }
        CHECK.due("frauds", 30, dole.frauds(1));
        Check.partTo(dole, 2);
        dole.enter(0, 2, 7, 8, 0);
        CHECK.due("enrolled in this month", 0, dole.show(7, 0, 1));
        dole.enter(0, 1, 8, 9, 0);
        CHECK.due("enrolled in an earlier one", 0, dole.show(8, 0, 1));
        dole.enter(1, 0, 9, 0, 0);
        CHECK.due("died ahead of that", 1, dole.show(8, 0, 1));
        CHECK.due("shown already", 3, dole.show(7, 0, 1));
    }

    private static void shownGoodAlready() {
        GrainDole dole = withAllPlaces();
        dole.show(0, 0, 0);
        dole.enter(3, 0, 0, 0, 0);
        CHECK.due("nobody", 1, dole.show(0, 0, 0));
        dole.enter(0, 0, 0, 50, 0);
        CHECK.due("shown good, though for another", 3, dole.show(0, 0, 0));
        dole.show(40, 0, 0);
        dole.show(1, 0, 4);
        dole.show(1, 2, 0);
        CHECK.due("what was refused was not shown", 0, dole.show(1, 0, 0));
    }

    private static void theLeastReason() {
        GrainDole dole = withAllPlaces();
        dole.show(0, 0, 0);
        CHECK.due("no second one, and shown", 2, dole.show(0, 1, 0));
        dole.swear(0);
        CHECK.due("void, and shown", 2, dole.show(0, 0, 0));
        CHECK.due("shown", 3, dole.show(0, 1, 0));
        dole.enter(1, 0, 0, 0, 0);
        CHECK.due("nobody, void, and shown", 1, dole.show(0, 0, 0));
        CHECK.due("nobody, and shown", 1, dole.show(0, 1, 0));
        dole.enter(1, 0, 1, 0, 0);
        CHECK.due("nobody, no second one", 1, dole.show(1, 1, 0));
        CHECK.due("frauds", 6, dole.frauds(0));
    }

    private static void gatesThatCanBeAsked() {
        GrainDole dole = new GrainDole();
        for (int gate = 0; gate < 4; gate++) {
            for (int k = 0; k <= gate; k++) {
                dole.show(0, 0, gate);
            }
        }
        for (int gate = -20; gate <= 40; gate++) {
            CHECK.due("frauds " + gate, gate >= 0 && gate < 4 ? gate + 1 : -1, dole.frauds(gate));
        }
        for (int gate : Scenes.FAR) {
            CHECK.due("frauds " + gate, -1, dole.frauds(gate));
        }
        Twins busy = new Twins(CHECK, Scenes::busy);
        busy.refused("frauds -1", made -> made.frauds(-1));
        busy.refused("frauds 4", made -> made.frauds(4));
    }

    private static void fraudsOfThisMonth() {
        GrainDole dole = new GrainDole();
        for (int k = 1; k <= 300; k++) {
            dole.show(0, 0, 3);
        }
        CHECK.due("many", 300, dole.frauds(3));
        dole.part();
        for (int gate = 0; gate < 4; gate++) {
            CHECK.due("none in a new month", 0, dole.frauds(gate));
        }
        dole.show(0, 0, 3);
        CHECK.due("one in it", 1, dole.frauds(3));
    }

    private static void showingsUpToTheEnd() {
        GrainDole dole = withAllPlaces();
        Check.partTo(dole, Scenes.LAST_MONTH);
        CHECK.due("in month 119", 0, dole.show(0, 0, 0));
        CHECK.due("in month 119, again", 3, dole.show(0, 0, 0));
        CHECK.due("frauds", 1, dole.frauds(0));
        dole.part();
        CHECK.due("at the end", -1, dole.show(0, 0, 0));
        CHECK.due("at the end, another", -1, dole.show(1, 0, 0));
        CHECK.due("at the end, nobody's", -1, dole.show(29, 1, 0));
        CHECK.due("frauds", 0, dole.frauds(0));
    }
}
