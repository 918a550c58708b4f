/** The edges of promises 1 and 23: a new object, count; and of the face: the 512 calls of an object. */
public final class CountEdgesTest {
    private static final Check CHECK = new Check();
    private static final int CALLS = 512;

    public static void main(String[] args) {
        aNewObjectHasNothing();
        whatCanBeCounted();
        countsOfAFullObject();
        allTheCornThatCanLieThere();
        nowFrom0To120();
        theLastOf512Calls();
        laterCallsDoNotThrow();
        wrongQuestionsChangeNothing();
        CHECK.finish();
    }

    private static void countsAre(String name, GrainDole dole, int... want) {
        for (int what = -20; what <= 40; what++) {
            boolean is = what >= 0 && what < want.length;
            CHECK.due(name + ": count " + what, is ? want[what] : -1, dole.count(what));
        }
        for (int what : Scenes.FAR) {
            CHECK.due(name + ": count " + what, -1, dole.count(what));
        }
    }

    private static void aNewObjectHasNothing() {
        GrainDole dole = new GrainDole();
        countsAre("new", dole, 0, 0, 0, 0, 0, 0, 0, -1, -1, -1, 0, 0, 0, 0);
        CHECK.due("no law", -1, dole.holds(119, 119, 6));
        CHECK.due("no entry", -1, dole.isVoid(0, 119));
        CHECK.due("no ship", -1, dole.premium(0));
        CHECK.due("no lot", -1, dole.lot(0, 0));
        CHECK.due("no month parted", -1, dole.month(0, 0));
        CHECK.due("first entry", 0, dole.enter(3, 0, 0, 0, 0));
        CHECK.due("first ship", 0, dole.ship(1, 0));
        CHECK.due("first law", 0, Check.law(dole, 0, "share 5"));
        CHECK.due("first lot", 1, dole.land(0, 0, 1, false));
        CHECK.due("its month", 0, dole.lot(0, 2));
    }

    private static void whatCanBeCounted() {
        countsAre("busy", Scenes.busy(), 3, 2, 9, 2, 4, 15, Scenes.busy().count(6), -1, -1, -1,
                Scenes.busy().count(10), Scenes.busy().count(11), Scenes.busy().count(12), 20);
        GrainDole dole = Scenes.busy();
        CHECK.due("granaries in all", dole.count(6),
                dole.count(10) + dole.count(11) + dole.count(12) + dole.count(13));
    }

    private static void countsOfAFullObject() {
        int[] lies = new int[4];
        for (int k = 0; k < Scenes.LOTS; k++) {
            lies[k % 4] += 1 + k % 7;
        }
        countsAre("full", Scenes.full(), 1, 8, 150, 30, 100, 200, lies[0] + lies[1] + lies[2] + lies[3], -1, -1, -1,
                lies[0], lies[1], lies[2], lies[3]);
    }

    private static void allTheCornThatCanLieThere() {
        GrainDole dole = new GrainDole();
        dole.ship(3000, 0);
        for (int granary = 0; granary < 4; granary++) {
            dole.room(granary, 5000);
            CHECK.due("land", 3000, dole.land(0, granary, 3000, false));
            CHECK.due("as far as room lets", 2000, dole.land(0, granary, 3000, false));
            CHECK.due("no more", 0, dole.land(0, granary, 1, false));
        }
        countsAre("all corn", dole, 0, 0, 0, 1, 8, 0, 20000, -1, -1, -1, 5000, 5000, 5000, 5000);
    }

    private static void nowFrom0To120() {
        GrainDole dole = new GrainDole();
        for (int now = 0; now < 120; now++) {
            CHECK.due("now", now, dole.count(0));
            CHECK.due("part", 0, dole.part());
        }
        for (int k = 0; k < 3; k++) {
            CHECK.due("now at the end", 120, dole.count(0));
            CHECK.due("part at the end", -1, dole.part());
        }
        countsAre("over", dole, 120, 0, 0, 0, 0, 0, 0, -1, -1, -1, 0, 0, 0, 0);
    }

    private static void theLastOf512Calls() {
        GrainDole dole = new GrainDole();
        for (int k = 0; k < 120; k++) {
            CHECK.due("enter", k, dole.enter(0, 0, k % 30, k % 100, 1));
        }
        for (int k = 120; k < CALLS - 4; k++) {
            CHECK.due("show", k < 150 ? 0 : 3, dole.show(k % 30, 0, 0));
        }
        CHECK.due("ship", 0, dole.ship(3000, 0));
        CHECK.due("land", 160, dole.land(0, 0, 160, false));
        CHECK.due("part", 150, dole.part());
        CHECK.due("the 512th", 5, dole.given(29, 0));
    }

    /** What they answer is free, but none may throw. */
    private static void laterCallsDoNotThrow() {
        GrainDole dole = Scenes.full();
        for (int k = 0; k < 4 * CALLS; k++) {
            dole.enter(k % 5 - 1, k % 7, k % 31, k % 101, k % 5);
            dole.show(k % 31, k % 2, k % 5);
            dole.swear(k % 31);
            dole.feed(k, -k, k << 24, ~k, k);
            dole.law(k % 121);
            dole.ship(k, k % 121);
            dole.land(k % 31, k % 5, k, k % 2 == 0);
            dole.room(k % 5, k);
            dole.back(k % 101);
            dole.from(k % 31, k % 121, k % 60);
            if (k % 9 == 0) {
                dole.part();
            }
        }
        CHECK.due("none threw", true, true);
    }

    private static void wrongQuestionsChangeNothing() {
        Twins busy = new Twins(CHECK, Scenes::busy);
        int[] wrong = {-1, 7, 9, 14};
        for (int what : wrong) {
            busy.refused("count " + what, dole -> dole.count(what));
        }
    }
}
