/** The edges of promises 2 and 3: feed, end. */
public final class TapeEdgesTest {
    private static final Check CHECK = new Check();
    private static final int BLANKS = 0x20202020;

    public static void main(String[] args) {
        feedTakesUpTo200();
        aRefusedFeedBringsNoByte();
        aRefusedFeedChangesNothing();
        eachByteHasItsPlace();
        bytesAreNotSigned();
        bytesComeBehindTheTape();
        endTakesWhatTheTapeHas();
        aRefusedEndChangesNothing();
        endKeepsTheFirstBytes();
        whatWasCutDoesNotComeBack();
        CHECK.finish();
    }

    private static GrainDole withText(String text) {
        GrainDole dole = new GrainDole();
        Check.write(dole, text);
        return dole;
    }

    private static void feedTakesUpTo200() {
        for (int n = 0; n <= 200; n++) {
            GrainDole dole = withText(" ".repeat(n));
            boolean fits = n <= 180;
            CHECK.due("feed behind " + n, fits ? n + 20 : -1, dole.feed(BLANKS, BLANKS, BLANKS, BLANKS, BLANKS));
            CHECK.due("then the tape has", fits ? n + 20 : n, dole.count(5));
        }
    }

    private static void aRefusedFeedBringsNoByte() {
        int[] lengths = {181, 182, 190, 199, 200};
        for (int n : lengths) {
            GrainDole dole = withText(" ".repeat(n - 7) + "share 7");
            CHECK.due("feed behind " + n, -1, dole.feed(0x31313131, 0, 0, 0, 0));
            CHECK.due("the text is as it was", 0, dole.law(0));
            CHECK.due("share", 7, dole.holds(0, 0, 0));
        }
    }

    private static void aRefusedFeedChangesNothing() {
        new Twins(CHECK, Scenes::full).refused("feed on a full tape", dole -> dole.feed(1, 2, 3, 4, 5));
        new Twins(CHECK, () -> withText(Scenes.textOf200().substring(19)))
                .refused("feed behind 181", dole -> dole.feed(BLANKS, BLANKS, BLANKS, BLANKS, BLANKS));
    }

    private static void eachByteHasItsPlace() {
        for (int place = 0; place < 20; place++) {
            int[] numbers = {BLANKS, BLANKS, BLANKS, BLANKS, BLANKS};
            int shift = 24 - 8 * (place % 4);
            numbers[place / 4] ^= (' ' ^ ';') << shift;
            GrainDole dole = new GrainDole();
            dole.feed(numbers[0], numbers[1], numbers[2], numbers[3], numbers[4]);
            CHECK.due("a ; alone at " + place, Check.fault(place, 0), dole.law(0));
        }
    }

    private static void bytesAreNotSigned() {
        int[] numbers = {-1, Integer.MIN_VALUE, 0xa0202020, 0xff202020};
        for (int number : numbers) {
            GrainDole dole = new GrainDole();
            CHECK.due("feed " + number, 20, dole.feed(number, number, number, number, number));
            CHECK.due("law of it", Check.fault(0, 0), dole.law(0));
        }
        GrainDole dole = new GrainDole();
        dole.feed(BLANKS, BLANKS, BLANKS, BLANKS, 0x202020a0);
        CHECK.due("byte 160 is no blank", Check.fault(19, 0), dole.law(0));
    }

    private static void bytesComeBehindTheTape() {
        GrainDole dole = withText("share ");
        CHECK.due("feed", 26, dole.feed(0x34202020, BLANKS, BLANKS, BLANKS, BLANKS));
        CHECK.due("feed", 46, dole.feed(0x3b626163, 0x6b203920, BLANKS, BLANKS, BLANKS));
        CHECK.due("law", 0, dole.law(0));
        CHECK.due("share", 4, dole.holds(0, 0, 0));
        CHECK.due("back", 9, dole.holds(0, 0, 4));
        CHECK.due("behind a law", 20, dole.feed(BLANKS, BLANKS, BLANKS, BLANKS, BLANKS));
    }

    private static void endTakesWhatTheTapeHas() {
        int[] lengths = {0, 1, 19, 20, 199, 200};
        for (int length : lengths) {
            for (int n = -2; n <= 202; n++) {
                GrainDole dole = withText(" ".repeat(length));
                boolean has = n >= 0 && n <= length;
                CHECK.due("end " + n + " of " + length, has ? n : -1, dole.end(n));
                CHECK.due("then the tape has", has ? n : length, dole.count(5));
            }
        }
    }

    private static void aRefusedEndChangesNothing() {
        Twins busy = new Twins(CHECK, Scenes::busy);
        Twins full = new Twins(CHECK, Scenes::full);
        int[] wrong = {-1, -2, 16, 17, 20, 201};
        for (int n : wrong) {
            busy.refused("end " + n + " of 15", dole -> dole.end(n));
        }
        for (int n : Scenes.FAR) {
            busy.refused("end " + n + " of 15", dole -> dole.end(n));
            full.refused("end " + n + " of 200", dole -> dole.end(n));
        }
        full.refused("end 201 of 200", dole -> dole.end(201));
        full.unchanged("end 200 of 200", 200, dole -> dole.end(200));
        new Twins(CHECK, GrainDole::new).refused("end 1 of none", dole -> dole.end(1));
        new Twins(CHECK, GrainDole::new).unchanged("end 0 of none", 0, dole -> dole.end(0));
    }

    private static void endKeepsTheFirstBytes() {
        String text = "share 12;back 34";
        int[] shares = {1, 12};
        for (int n = 7; n <= 8; n++) {
            GrainDole dole = withText(text);
            dole.end(n);
            CHECK.due("law of " + n, 0, dole.law(0));
            CHECK.due("share", shares[n - 7], dole.holds(0, 0, 0));
            CHECK.due("back", 100, dole.holds(0, 0, 4));
        }
        GrainDole dole = withText(text);
        dole.end(9);
        CHECK.due("law of 9", Check.fault(9, 0), dole.law(0));
        dole = withText(text);
        dole.end(0);
        CHECK.due("law of 0", 0, dole.law(0));
        CHECK.due("share", 5, dole.holds(0, 0, 0));
    }

    private static void whatWasCutDoesNotComeBack() {
        GrainDole dole = withText("share 12");
        CHECK.due("end 7", 7, dole.end(7));
        CHECK.due("end 8", -1, dole.end(8));
        CHECK.due("bytes", 7, dole.count(5));
        CHECK.due("feed", 27, dole.feed(BLANKS, BLANKS, BLANKS, BLANKS, BLANKS));
        CHECK.due("law", 0, dole.law(0));
        CHECK.due("share", 1, dole.holds(0, 0, 0));
        CHECK.due("end behind a law", -1, dole.end(1));
    }
}
