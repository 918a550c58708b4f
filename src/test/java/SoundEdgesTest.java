/** The edges of what is sound (terms III, promise 18), and of promise 14: premium. */
public final class SoundEdgesTest {
    private static final Check CHECK = new Check();

    public static void main(String[] args) {
        soundUpToSpoil();
        dampUpToSpoilLessDamp();
        withoutALaw();
        byTheLawOfTheMonthAsKnownInIt();
        thrownOutAheadOfTheParting();
        premiumFromHalfOn();
        premiumOfTheContractsAtMost();
        premiumDownwards();
        premiumOfWhatLandedByItsMonth();
        premiumOnceItsMonthIsParted();
        premiumByTheLawOfThatMonth();
        premiumOfWhatIsGone();
        shipsThatCanBeAsked();
        CHECK.finish();
    }

    /** Corn landed in a month lies there up to the parting of so many months behind it; "" is no law. */
    private static void lies(String law, boolean damp, int landedIn, int months) {
        GrainDole dole = new GrainDole();
        if (!law.isEmpty()) {
            Check.law(dole, 0, law);
        }
        dole.ship(10, 119);
        Check.partTo(dole, landedIn);
        dole.land(0, 0, 10, damp);
        for (int m = landedIn; m < Math.min(120, landedIn + months + 3); m++) {
            dole.part();
            boolean sound = m - landedIn <= months;
            CHECK.due(law + ", lies behind month " + m, sound ? 10 : 0, dole.month(m, 4));
            CHECK.due(law + ", thrown out in " + m, m - landedIn == months + 1 ? 10 : 0, dole.month(m, 3));
        }
        boolean sound = 119 - landedIn <= months;
        CHECK.due("lies there still", sound ? 10 : 0, dole.lot(0, 4));
        CHECK.due("thrown out", sound ? 0 : 10, dole.lot(0, 5));
    }

    private static void soundUpToSpoil() {
        int[] spoils = {0, 1, 2, 12, 59, 60};
        for (int spoil : spoils) {
            lies("spoil " + spoil, false, 0, spoil);
            lies("spoil " + spoil, false, 5, spoil);
            lies("spoil " + spoil + ";damp 60", false, 1, spoil);
        }
        lies("spoil 60", false, 59, 60);
        lies("spoil 60", false, 58, 60);
        lies("spoil 60", false, 119, 60);
    }

    private static void dampUpToSpoilLessDamp() {
        int[] numbers = {0, 1, 2, 7, 30, 59, 60};
        for (int spoil : numbers) {
            for (int damp : numbers) {
                lies("spoil " + spoil + ";damp " + damp, true, 3, Math.max(0, spoil - damp));
            }
        }
        lies("spoil 7", true, 0, 1);
        lies("spoil 6", true, 0, 0);
        lies("spoil 5", true, 0, 0);
        lies("damp 11", true, 0, 1);
        lies("damp 12", true, 0, 0);
        lies("damp 13", true, 0, 0);
    }

    private static void withoutALaw() {
        lies("", false, 0, 12);
        lies("", true, 0, 6);
        lies("", false, 107, 12);
        lies("", false, 106, 12);
    }

    private static void byTheLawOfTheMonthAsKnownInIt() {
        GrainDole dole = new GrainDole();
        dole.ship(10, 119);
        Check.law(dole, 3, "spoil 2");
        dole.land(0, 0, 10, false);
        Check.partTo(dole, 3);
        CHECK.due("by the laws of months ahead of it", 10, dole.count(6));
        dole.part();
        CHECK.due("by the law of month 3", 10, dole.month(3, 3));
        dole.land(0, 0, 10, false);
        Check.partTo(dole, 7);
        Check.law(dole, 7, "spoil 3");
        dole.part();
        CHECK.due("by a law told in that month", 10, dole.count(6));
        dole.part();
        CHECK.due("then no more", 0, dole.count(6));
    }

    private static void thrownOutAheadOfTheParting() {
        GrainDole dole = new GrainDole();
        Check.law(dole, 0, "spoil 1;share 2");
        dole.enter(0, 0, 0, 0, 0);
        dole.ship(10, 119);
        dole.land(0, 0, 10, false);
        int[] parted = {2, 2, 0};
        for (int m = 0; m < parted.length; m++) {
            dole.show(0, 0, 0);
            CHECK.due("part " + m, parted[m], dole.part());
            CHECK.due("lean " + m, m < 2 ? 0 : 1, dole.month(m, 2));
        }
        CHECK.due("thrown out", 6, dole.month(2, 3));
        CHECK.due("nothing given", 0, dole.given(0, 2));
    }

    /** What a ship's premium is, once its month is parted. */
    private static int premium(int contract, int landed, int hundredths) {
        GrainDole dole = new GrainDole();
        Check.law(dole, 0, "premium " + hundredths);
        dole.ship(contract, 0);
        dole.room(0, 5000);
        if (landed > 3000) {
            dole.land(0, 0, landed - 3000, false);
        }
        if (landed > 0) {
            dole.land(0, 0, Math.min(3000, landed), true);
        }
        dole.part();
        return dole.premium(0);
    }

    private static void premiumFromHalfOn() {
        int[] contracts = {1, 2, 3, 4, 5, 100, 101, 2999, 3000};
        for (int contract : contracts) {
            int half = (contract + 1) / 2;
            CHECK.due("none landed of " + contract, 0, premium(contract, 0, 100));
            CHECK.due("just less than half of " + contract, 0, premium(contract, half - 1, 100));
            CHECK.due("just half of " + contract, half, premium(contract, half, 100));
            CHECK.due("just more than half of " + contract, Math.min(contract, half + 1),
                    premium(contract, half + 1, 100));
        }
    }

    private static void premiumOfTheContractsAtMost() {
        int[] contracts = {1, 2, 100, 2999, 3000};
        for (int contract : contracts) {
            CHECK.due("one less than " + contract, contract > 1 ? contract - 1 : 0,
                    premium(contract, contract - 1, 100));
            CHECK.due("just " + contract, contract, premium(contract, contract, 100));
            CHECK.due("one more than " + contract, contract, premium(contract, contract + 1, 100));
            CHECK.due("far more than " + contract, contract, premium(contract, 5000, 100));
        }
    }

    private static void premiumDownwards() {
        CHECK.due("0 hundredths", 0, premium(3000, 3000, 0));
        CHECK.due("1 hundredth of 99", 0, premium(99, 99, 1));
        CHECK.due("1 hundredth of 100", 1, premium(100, 100, 1));
        CHECK.due("1 hundredth of 199", 1, premium(199, 199, 1));
        CHECK.due("99 hundredths of 1", 0, premium(1, 1, 99));
        CHECK.due("100 hundredths of 1", 1, premium(1, 1, 100));
        CHECK.due("50 hundredths of 3", 1, premium(3, 3, 50));
        CHECK.due("99 hundredths of 2999", 2969, premium(2999, 2999, 99));
    }

    private static void premiumOfWhatLandedByItsMonth() {
        GrainDole dole = new GrainDole();
        Check.law(dole, 0, "premium 100");
        dole.ship(100, 2);
        dole.ship(100, 2);
        dole.ship(100, 2);
        dole.land(0, 0, 50, false);
        Check.partTo(dole, 2);
        dole.land(1, 0, 50, false);
        dole.land(0, 0, 7, false);
        dole.part();
        dole.land(2, 0, 100, false);
        dole.land(0, 0, 9, false);
        CHECK.due("ahead of its month and in it", 57, dole.premium(0));
        CHECK.due("in its month", 50, dole.premium(1));
        CHECK.due("behind its month", 0, dole.premium(2));
        Check.partTo(dole, Scenes.END);
        CHECK.due("at the end", 57, dole.premium(0));
    }

    private static void premiumOnceItsMonthIsParted() {
        int[] months = {0, 1, 60, 118, 119};
        for (int month : months) {
            GrainDole dole = new GrainDole();
            Check.law(dole, 0, "premium 100");
            dole.ship(10, month);
            dole.land(0, 0, 10, false);
            for (int now = 0; now < 120; now++) {
                CHECK.due("by " + month + ", in " + now, now <= month ? 0 : 10, dole.premium(0));
                dole.part();
            }
            CHECK.due("at the end", 10, dole.premium(0));
        }
    }

    private static void premiumByTheLawOfThatMonth() {
        GrainDole dole = new GrainDole();
        Check.law(dole, 1, "premium 1");
        Check.law(dole, 2, "premium 2");
        Check.law(dole, 3, "premium 3");
        for (int month = 0; month <= 4; month++) {
            dole.ship(100, month);
            dole.land(month, 0, 100, false);
        }
        Check.partTo(dole, 5);
        int[] want = {0, 1, 2, 3, 3};
        for (int ship = 0; ship < want.length; ship++) {
            CHECK.due("ship by " + ship, want[ship], dole.premium(ship));
        }
        Check.law(dole, 2, "premium 20");
        int[] then = {0, 1, 20, 3, 3};
        for (int ship = 0; ship < then.length; ship++) {
            CHECK.due("as known now, ship by " + ship, then[ship], dole.premium(ship));
        }
        Check.partTo(dole, 119);
        Check.law(dole, 0, "premium 100");
        Check.partTo(dole, Scenes.END);
        CHECK.due("by a law told in the last month", 100, dole.premium(0));
        CHECK.due("by the law of its month still", 1, dole.premium(1));
    }

    private static void premiumOfWhatIsGone() {
        GrainDole dole = new GrainDole();
        Check.law(dole, 0, "premium 100;spoil 0;share 10");
        dole.enter(0, 0, 0, 0, 0);
        dole.ship(20, 1);
        dole.land(0, 0, 10, false);
        dole.land(0, 0, 10, false);
        dole.show(0, 0, 0);
        dole.part();
        dole.part();
        CHECK.due("nothing lies there", 0, dole.count(6));
        CHECK.due("given and thrown out, but landed", 20, dole.premium(0));
    }

    private static void shipsThatCanBeAsked() {
        for (int ships = 0; ships <= 30; ships += 15) {
            GrainDole dole = new GrainDole();
            for (int k = 0; k < ships; k++) {
                dole.ship(10, 0);
            }
            for (int ship = -3; ship <= 40; ship++) {
                CHECK.due("of " + ships + ", premium " + ship, ship >= 0 && ship < ships ? 0 : -1,
                        dole.premium(ship));
            }
            for (int ship : Scenes.FAR) {
                CHECK.due("of " + ships + ", premium " + ship, -1, dole.premium(ship));
            }
        }
    }
}
