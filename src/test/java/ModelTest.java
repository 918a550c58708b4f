import java.util.Random;

/** Long runs of calls, the same ones always, each answer compared with that of PlainDole. */
public final class ModelTest {
    private static final Check CHECK = new Check();
    private static final int RUNS = 600;
    private static final int CALLS = 512;
    private static final int QUESTIONS = 150;
    private static final int[] WILD = {-1, Integer.MIN_VALUE, Integer.MAX_VALUE, 30, 100, 119, 120, 121, 4, 3000, 3001};
    private static final String[] WORDS = {"share ", "rank ", "spoil ", "damp ", "sale ", "back ", "premium ", "yes",
        "no", ";", " ", "x", "\u00ff", "share 5;", "rank 1 50;", "rank 0 0;"};

    private final Random random;
    private final GrainDole dole = new GrainDole();
    private final PlainDole plain = new PlainDole();
    private final int places;
    private final int citizens;
    private final int partsInHundred;
    private final String run;
    private int calls = 0;

    private ModelTest(int seed) {
        random = new Random(seed);
        run = "run " + seed + ", call ";
        places = 1 + random.nextInt(30);
        citizens = places + random.nextInt(101 - places);
        partsInHundred = 1 + random.nextInt(30);
    }

    public static void main(String[] args) {
        for (int seed = 0; seed < RUNS; seed++) {
            ModelTest test = new ModelTest(seed);
            while (test.calls < CALLS - QUESTIONS) {
                test.callAny();
            }
            while (test.calls < CALLS) {
                test.askAny();
            }
            // Some runs go beyond the calls that are promised: nothing may throw there either.
            while (seed % 10 == 0 && test.calls < 3 * CALLS) {
                test.callAny();
            }
        }
        CHECK.finish();
    }

    private int below(int bound) {
        return random.nextInt(60) == 0 ? WILD[random.nextInt(WILD.length)] : random.nextInt(bound);
    }

    private int nearNow() {
        return below(Math.min(120, plain.now() + 2));
    }

    /** What an object answers behind its 512th call is free. */
    private void due(String call, int want, int got) {
        calls++;
        if (calls <= CALLS) {
            CHECK.due(run + calls + ": " + call, want, got);
        }
    }

    private void callAny() {
        int dice = random.nextInt(100);
        if (dice < partsInHundred) {
            due("part", plain.part(), dole.part());
        } else if (dice < 60) {
            change(random.nextInt(16));
        } else {
            askAny();
        }
    }

    private void askAny() {
        ask(random.nextInt(13));
    }

    private void change(int which) {
        if (which < 5) {
            enter();
        } else if (which < 10) {
            int place = below(places);
            int token = random.nextInt(8) == 0 ? below(2) : 0;
            int gate = below(4);
            due("show " + place, plain.show(place, token, gate), dole.show(place, token, gate));
        } else if (which == 10) {
            int place = below(places);
            due("swear " + place, plain.swear(place) ? 1 : 0, dole.swear(place) ? 1 : 0);
        } else if (which == 11) {
            int month = plain.now() + random.nextInt(8) - 1;
            int measures = random.nextInt(2) == 0 ? below(60) : below(3002);
            due("ship " + measures, plain.ship(measures, month), dole.ship(measures, month));
        } else if (which < 14) {
            land();
        } else if (which == 14) {
            int granary = below(4);
            int measures = random.nextInt(2) == 0 ? below(100) : below(5002);
            due("room " + granary, plain.room(granary, measures), dole.room(granary, measures));
        } else {
            tellLaw();
        }
    }

    private void enter() {
        int kind = random.nextInt(2) == 0 ? 0 : below(4);
        int month = random.nextInt(3) == 0 ? nearNow() : plain.now();
        int a = below(kind == 1 ? citizens : places);
        int b = below(citizens);
        int c = below(4);
        due("enter " + kind, plain.enter(kind, month, a, b, c), dole.enter(kind, month, a, b, c));
    }

    private void land() {
        int ship = below(Math.max(1, plain.count(3)));
        int granary = below(4);
        int measures = random.nextInt(4) == 0 ? below(3002) : below(40);
        boolean damp = random.nextInt(3) == 0;
        due("land " + measures, plain.land(ship, granary, measures, damp), dole.land(ship, granary, measures, damp));
    }

    private void tellLaw() {
        StringBuilder text = new StringBuilder();
        int pieces = random.nextInt(6);
        for (int k = 0; k < pieces; k++) {
            text.append(random.nextInt(4) == 0 ? WORDS[random.nextInt(WORDS.length)] : clause());
            text.append(k + 1 < pieces && random.nextInt(12) > 0 ? ";" : "");
        }
        text.setLength(Math.min(text.length(), 200));
        for (int start = 0; start < text.length(); start += 20) {
            int[] five = new int[5];
            for (int i = 0; i < 20; i++) {
                int next = start + i < text.length() ? text.charAt(start + i) & 255 : random.nextInt(256);
                five[i / 4] = five[i / 4] << 8 | next;
            }
            due("feed", plain.feed(five), dole.feed(five[0], five[1], five[2], five[3], five[4]));
        }
        int length = random.nextInt(15) == 0 ? below(210) : text.length();
        due("end", plain.end(length), dole.end(length));
        int month = random.nextInt(2) == 0 ? nearNow() : below(120);
        due("law " + month + " '" + text + "'", plain.law(month), dole.law(month));
    }

    private String clause() {
        String blank = random.nextInt(5) == 0 ? "  " : " ";
        String odd = random.nextInt(20) == 0 ? "000" : "";
        switch (random.nextInt(7)) {
            case 0:
                return "share" + blank + odd + random.nextInt(52);
            case 1:
                int r = random.nextInt(random.nextInt(9) == 0 ? 5 : 4);
                return blank + "rank " + odd + r + blank + random.nextInt(102);
            case 2:
                return "spoil " + random.nextInt(10) + blank;
            case 3:
                return "damp " + random.nextInt(10);
            case 4:
                return "sale" + blank + (random.nextInt(4) == 0 ? "no" : "yes");
            case 5:
                return "back " + odd + random.nextInt(202);
            default:
                return "premium " + random.nextInt(102);
        }
    }

    private void ask(int which) {
        int a = below(31);
        int m = nearNow();
        int known = nearNow();
        switch (which) {
            case 0 -> due("holds", plain.holds(m, known, a % 16), dole.holds(m, known, a % 16));
            case 1 -> {
                int entry = below(Math.max(1, plain.count(2)));
                due("isVoid " + entry, plain.isVoid(entry, known), dole.isVoid(entry, known));
            }
            case 2 -> due("holder " + a, plain.holder(a, m, known), dole.holder(a, m, known));
            case 3 -> due("rank " + a, plain.rank(a, m, known), dole.rank(a, m, known));
            case 4 -> {
                int lot = below(Math.max(1, plain.count(4)));
                due("lot " + lot, plain.lot(lot, a % 7), dole.lot(lot, a % 7));
            }
            case 5 -> due("premium " + a, plain.premium(a), dole.premium(a));
            case 6 -> due("frauds " + a % 5, plain.frauds(a % 5), dole.frauds(a % 5));
            case 7 -> due("month " + m, plain.month(m, a % 7), dole.month(m, a % 7));
            case 8 -> due("given " + a, plain.given(a, m), dole.given(a, m));
            case 9 -> {
                int i = below(12);
                due("from " + a, plain.from(a, m, i), dole.from(a, m, i));
            }
            case 10, 11 -> {
                int citizen = below(citizens);
                due("back " + citizen, plain.back(citizen), dole.back(citizen));
            }
            default -> due("count " + a % 15, plain.count(a % 15), dole.count(a % 15));
        }
    }
}
