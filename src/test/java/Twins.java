import java.util.ArrayList;
import java.util.List;
import java.util.function.Consumer;
import java.util.function.Supplier;
import java.util.function.ToIntFunction;

/**
 * Tells what a call changes: of objects made alike one has that call and another has not, then both
 * are asked all questions, and do what brings to light what no question tells (rooms, oaths, tokens
 * shown, the bytes of the tape). New ones are made all along, so that none has more than 512 calls.
 */
final class Twins {
    private static final int AT_ONCE = 120;
    private static final int[] MONTHS = {0, 1, 2, 3, 4, 119};

    private record Probe(String name, ToIntFunction<GrainDole> ask) { }

    private static final List<List<Probe>> PROBES = allProbes();

    private final Check check;
    private final Supplier<GrainDole> maker;

    Twins(Check check, Supplier<GrainDole> maker) {
        this.check = check;
        this.maker = maker;
    }

    /** A call answers as is due, and changes nothing. */
    void unchanged(String name, int want, ToIntFunction<GrainDole> call) {
        sameAs(name, want, call, dole -> { });
    }

    /** A call answers NONE, and changes nothing. */
    void refused(String name, ToIntFunction<GrainDole> call) {
        unchanged(name, GrainDole.NONE, call);
    }

    /** A call answers as is due, and changes what other calls change. */
    void sameAs(String name, int want, ToIntFunction<GrainDole> call, Consumer<GrainDole> others) {
        check.due(name, want, call.applyAsInt(maker.get()));
        for (List<Probe> group : PROBES) {
            GrainDole called = maker.get();
            GrainDole twin = maker.get();
            call.applyAsInt(called);
            others.accept(twin);
            for (Probe probe : group) {
                int got = probe.ask.applyAsInt(called);
                int due = probe.ask.applyAsInt(twin);
                if (got != due) {
                    check.due(name + ", behind it " + probe.name, due, got);
                    return;
                }
            }
        }
        check.due(name + " changes no more than is due", true, true);
    }

    private static List<List<Probe>> allProbes() {
        List<List<Probe>> groups = new ArrayList<>();
        List<Probe> questions = new ArrayList<>();
        askOfCorn(questions);
        askOfLaws(questions);
        askOfTheList(questions);
        askOfMonths(questions);
        for (int start = 0; start < questions.size(); start += AT_ONCE) {
            groups.add(questions.subList(start, Math.min(start + AT_ONCE, questions.size())));
        }
        groups.add(rooms());
        groups.add(oaths());
        groups.add(tokens());
        groups.add(tape());
        groups.add(nextNumbers());
        groups.add(nextMonth());
        return groups;
    }

    private static void add(List<Probe> probes, String name, ToIntFunction<GrainDole> ask) {
        probes.add(new Probe(name, ask));
    }

    private static void askOfCorn(List<Probe> probes) {
        for (int k = 0; k <= 14; k++) {
            int what = k;
            add(probes, "count " + what, dole -> dole.count(what));
        }
        for (int k = 0; k < 4; k++) {
            int gate = k;
            add(probes, "frauds " + gate, dole -> dole.frauds(gate));
        }
        for (int k = 0; k <= Scenes.SHIPS; k++) {
            int ship = k;
            add(probes, "premium " + ship, dole -> dole.premium(ship));
        }
        for (int k = 0; k <= 6 * Scenes.LOTS; k++) {
            int lot = k / 6;
            int what = k % 6;
            add(probes, "lot " + lot + " " + what, dole -> dole.lot(lot, what));
        }
    }

    private static void askOfLaws(List<Probe> probes) {
        for (int month : MONTHS) {
            for (int known : MONTHS) {
                for (int k = 0; k <= 13; k++) {
                    int what = k;
                    add(probes, "holds " + month + " " + known + " " + what,
                            dole -> dole.holds(month, known, what));
                }
            }
        }
    }

    private static void askOfTheList(List<Probe> probes) {
        for (int k = 0; k < 30; k++) {
            int place = k;
            for (int month : MONTHS) {
                add(probes, "holder " + place + " " + month, dole -> dole.holder(place, month, 119));
                add(probes, "rank " + place + " " + month, dole -> dole.rank(place, month, 119));
                add(probes, "holder as known in " + month, dole -> dole.holder(place, 119, month));
            }
        }
        for (int k = 0; k <= Scenes.ENTRIES; k++) {
            int entry = k;
            add(probes, "isVoid " + entry, dole -> dole.isVoid(entry, 119));
            add(probes, "isVoid as known in 3 " + entry, dole -> dole.isVoid(entry, 3));
        }
    }

    private static void askOfMonths(List<Probe> probes) {
        for (int m : MONTHS) {
            for (int k = 0; k <= 6; k++) {
                int what = k;
                add(probes, "month " + m + " " + what, dole -> dole.month(m, what));
            }
            for (int k = 0; k < 30; k++) {
                int place = k;
                add(probes, "given " + place + " " + m, dole -> dole.given(place, m));
                add(probes, "from " + place + " " + m, dole -> dole.from(place, m, 0));
            }
        }
        for (int k = 0; k < 100; k++) {
            int citizen = k;
            add(probes, "back " + citizen, dole -> dole.back(citizen));
        }
    }

    private static List<Probe> rooms() {
        List<Probe> probes = new ArrayList<>();
        for (int k = 0; k < 4; k++) {
            int granary = k;
            add(probes, "room " + granary, dole -> dole.room(granary, 5000));
        }
        return probes;
    }

    private static List<Probe> oaths() {
        List<Probe> probes = new ArrayList<>();
        for (int k = 0; k < 30; k++) {
            int place = k;
            add(probes, "swear " + place, dole -> dole.swear(place) ? 1 : 0);
        }
        return probes;
    }

    private static List<Probe> tokens() {
        List<Probe> probes = new ArrayList<>();
        for (int k = 0; k < 30; k++) {
            int place = k;
            add(probes, "second token of " + place, dole -> dole.show(place, 1, 0));
            add(probes, "first token of " + place, dole -> dole.show(place, 0, 0));
        }
        add(probes, "frauds then", dole -> dole.frauds(0));
        return probes;
    }

    private static List<Probe> tape() {
        List<Probe> probes = new ArrayList<>();
        add(probes, "law", dole -> dole.law(119));
        for (int k = 0; k <= 13; k++) {
            int what = k;
            add(probes, "law's holds " + what, dole -> dole.holds(119, 119, what));
        }
        return probes;
    }

    private static List<Probe> nextNumbers() {
        List<Probe> probes = new ArrayList<>();
        add(probes, "enter", dole -> dole.enter(0, 0, 20, 90, 0));
        add(probes, "ship", dole -> dole.ship(10, 119));
        add(probes, "land", dole -> dole.land(0, 0, 10, false));
        add(probes, "count of lots", dole -> dole.count(4));
        return probes;
    }

    private static List<Probe> nextMonth() {
        List<Probe> probes = new ArrayList<>();
        add(probes, "part", GrainDole::part);
        for (int k = 0; k <= 5; k++) {
            int what = k;
            add(probes, "the month parted then, " + what, dole -> dole.month(dole.count(0) - 1, what));
        }
        for (int k = 0; k < 30; k++) {
            int place = k;
            add(probes, "given then for " + place, dole -> dole.given(place, dole.count(0) - 1));
        }
        return probes;
    }
}
