import java.util.ArrayList;
import java.util.Comparator;
import java.util.HashMap;
import java.util.List;
import java.util.Map;
import java.util.TreeMap;
import java.util.regex.Matcher;
import java.util.regex.Pattern;

/**
 * The document once more, written for comparison alone and in another way: every measure of corn is
 * a thing of its own, every list is made from nothing, and laws are read by patterns.
 */
final class PlainDole {
    private record Law(int month, int known, Map<String, Integer> told) { }

    private record Entry(int number, int kind, int month, int a, int b, int c, int known) { }

    private record Ship(int contract, int month) { }

    private record Lot(int ship, int granary, int month, int landed, boolean damp) { }

    private record Seat(int citizen, int rank) { }

    private record Gift(int month, int place, int citizen, int lot) { }

    private record Listing(Map<Integer, Seat> seats, List<Integer> voids) { }

    private static final Pattern TOKEN = Pattern.compile("[a-z]+|[0-9]+|[^ ]", Pattern.DOTALL);
    private static final Map<String, int[]> CLAUSES = Map.of("share", new int[] {1, 50, 5},
            "spoil", new int[] {0, 60, 12}, "damp", new int[] {0, 60, 6}, "sale", new int[] {0, 1, 0},
            "back", new int[] {0, 200, 100}, "premium", new int[] {0, 100, 0}, "rank", new int[] {0, 100, 100});
    private static final String[] WHATS = {"share", "spoil", "damp", "sale", "back", "premium"};

    private final StringBuilder tape = new StringBuilder();
    private final List<Law> laws = new ArrayList<>();
    private final List<Entry> entries = new ArrayList<>();
    private final List<Ship> ships = new ArrayList<>();
    private final List<Lot> lots = new ArrayList<>();
    private final List<Integer> grains = new ArrayList<>();
    private final int[] spoilt = new int[100];
    private final int[] rooms = {1000, 1000, 1000, 1000};
    private final List<Gift> gifts = new ArrayList<>();
    private final List<int[]> parted = new ArrayList<>();
    private final List<Integer> sworn = new ArrayList<>();
    private final List<Integer> good = new ArrayList<>();
    private final List<Integer> bad = new ArrayList<>();

    int now() {
        return parted.size();
    }

    private boolean over() {
        return now() == 120;
    }

    private static boolean in(int x, int least, int most) {
        return x >= least && x <= most;
    }

    int feed(int... numbers) {
        if (tape.length() > 180) {
            return -1;
        }
        for (int number : numbers) {
            tape.append((char) (number >> 24 & 255)).append((char) (number >> 16 & 255));
            tape.append((char) (number >> 8 & 255)).append((char) (number & 255));
        }
        return tape.length();
    }

    int end(int n) {
        if (!in(n, 0, tape.length())) {
            return -1;
        }
        tape.setLength(n);
        return n;
    }

    int law(int month) {
        String text = tape.toString();
        tape.setLength(0);
        if (over() || laws.size() == 8 || !in(month, 0, 119)) {
            return -1;
        }
        Map<String, Integer> told = new HashMap<>();
        int fault = readLaw(text, told);
        if (fault != 0) {
            return -2 - fault;
        }
        laws.add(new Law(month, now(), told));
        return laws.size() - 1;
    }

    private static int readLaw(String text, Map<String, Integer> told) {
        List<String> tokens = new ArrayList<>();
        List<Integer> at = new ArrayList<>();
        Matcher matcher = TOKEN.matcher(text);
        while (matcher.find()) {
            tokens.add(matcher.group());
            at.add(matcher.start());
        }
        if (tokens.isEmpty()) {
            return 0;
        }
        tokens.add("");
        at.add(text.length());
        int k = 0;
        while (true) {
            String name = tokens.get(k);
            if (!CLAUSES.containsKey(name)) {
                return 1 + 8 * at.get(k);
            }
            int[] limits = CLAUSES.get(name);
            if (name.equals("rank")) {
                k++;
                int kind = numberFault(tokens.get(k), 0, 3);
                if (kind >= 0) {
                    return 1 + 8 * at.get(k) + kind;
                }
                name += Integer.parseInt(tokens.get(k));
            }
            if (told.containsKey(name)) {
                return 1 + 8 * at.get(k) + 2;
            }
            k++;
            String value = tokens.get(k);
            if (name.equals("sale")) {
                if (!value.equals("yes") && !value.equals("no")) {
                    return 1 + 8 * at.get(k);
                }
                told.put(name, value.equals("yes") ? 1 : 0);
            } else {
                int kind = numberFault(value, limits[0], limits[1]);
                if (kind >= 0) {
                    return 1 + 8 * at.get(k) + kind;
                }
                told.put(name, Integer.parseInt(value));
            }
            k++;
            if (tokens.get(k).isEmpty()) {
                return 0;
            }
            if (!tokens.get(k).equals(";")) {
                return 1 + 8 * at.get(k);
            }
            k++;
        }
    }

    private static int numberFault(String token, int least, int most) {
        if (!token.matches("[0-9]+")) {
            return 0;
        }
        return token.length() <= 4 && in(Integer.parseInt(token), least, most) ? -1 : 1;
    }

    private Law inForce(int month, int known) {
        return laws.stream().filter(x -> x.month <= month && x.known <= known)
                .max(Comparator.comparingInt(Law::month).thenComparingInt(laws::lastIndexOf)).orElse(null);
    }

    private int value(int month, int known, String name) {
        Law law = inForce(month, known);
        int without = CLAUSES.get(name.startsWith("rank") ? "rank" : name)[2];
        return law == null ? without : law.told.getOrDefault(name, without);
    }

    int holds(int month, int known, int what) {
        if (!in(month, 0, 119) || !in(known, 0, 119)) {
            return -1;
        }
        if (in(what, 0, 5)) {
            return value(month, known, WHATS[what]);
        }
        if (what == 6) {
            return laws.lastIndexOf(inForce(month, known));
        }
        return in(what, 10, 13) ? value(month, known, "rank" + (what - 10)) : -1;
    }

    int enter(int kind, int month, int a, int b, int c) {
        boolean told = switch (kind) {
            case 0 -> in(a, 0, 29) && in(b, 0, 99) && in(c, 0, 3);
            case 1 -> in(a, 0, 99);
            case 2 -> in(a, 0, 29) && in(b, 0, 99);
            case 3 -> in(a, 0, 29);
            default -> false;
        };
        if (over() || entries.size() == 150 || !told || !in(month, 0, now())) {
            return -1;
        }
        entries.add(new Entry(entries.size(), kind, month, a, b, c, now()));
        return entries.size() - 1;
    }

    private Listing list(int month, int known) {
        Map<Integer, Seat> seats = new TreeMap<>();
        List<Integer> voids = new ArrayList<>();
        List<Integer> dead = new ArrayList<>();
        List<Entry> sorted = new ArrayList<>(entries);
        sorted.removeIf(x -> x.known > known || x.month > month);
        sorted.sort(Comparator.comparingInt(Entry::month).thenComparingInt(Entry::number));
        for (Entry x : sorted) {
            int who = x.kind == 1 ? x.a : x.b;
            boolean fit = !dead.contains(who) && seats.values().stream().noneMatch(s -> s.citizen == who);
            boolean held = seats.containsKey(x.a);
            if (x.kind == 0 && !held && fit) {
                seats.put(x.a, new Seat(who, x.c));
            } else if (x.kind == 1 && !dead.contains(who)) {
                dead.add(who);
                seats.values().removeIf(s -> s.citizen == who);
            } else if (x.kind == 2 && held && fit && value(x.month, known, "sale") == 1) {
                seats.put(x.a, new Seat(who, seats.get(x.a).rank));
            } else if (x.kind == 3 && held) {
                seats.remove(x.a);
            } else {
                voids.add(x.number);
            }
        }
        return new Listing(seats, voids);
    }

    int isVoid(int entry, int known) {
        if (!in(entry, 0, entries.size() - 1) || !in(known, 0, 119) || entries.get(entry).known > known) {
            return -1;
        }
        return list(119, known).voids.contains(entry) ? 1 : 0;
    }

    private Seat seat(int place, int month, int known) {
        return in(month, 0, 119) && in(known, 0, 119) ? list(month, known).seats.get(place) : null;
    }

    int holder(int place, int month, int known) {
        Seat seat = seat(place, month, known);
        return seat == null ? -1 : seat.citizen;
    }

    int rank(int place, int month, int known) {
        Seat seat = seat(place, month, known);
        return seat == null ? -1 : seat.rank;
    }

    int ship(int measures, int month) {
        if (over() || ships.size() == 30 || !in(measures, 1, 3000) || !in(month, now(), 119)) {
            return -1;
        }
        ships.add(new Ship(measures, month));
        return ships.size() - 1;
    }

    private int lies(int granary) {
        return (int) grains.stream().filter(k -> lots.get(k).granary == granary).count();
    }

    int room(int granary, int measures) {
        if (!in(granary, 0, 3) || !in(measures, lies(granary), 5000)) {
            return -1;
        }
        int was = rooms[granary];
        rooms[granary] = measures;
        return was;
    }

    int land(int ship, int granary, int measures, boolean damp) {
        if (over() || lots.size() == 100 || !in(ship, 0, ships.size() - 1) || !in(granary, 0, 3)
                || !in(measures, 1, 3000)) {
            return -1;
        }
        int landed = Math.min(measures, rooms[granary] - lies(granary));
        for (int i = 0; i < landed; i++) {
            grains.add(lots.size());
        }
        if (landed > 0) {
            lots.add(new Lot(ship, granary, now(), landed, damp));
        }
        return landed;
    }

    int lot(int k, int what) {
        if (!in(k, 0, lots.size() - 1) || !in(what, 0, 5)) {
            return -1;
        }
        Lot lot = lots.get(k);
        int left = (int) grains.stream().filter(g -> g == k).count();
        return new int[] {lot.ship, lot.granary, lot.month, lot.landed, left, spoilt[k]}[what];
    }

    int premium(int ship) {
        if (!in(ship, 0, ships.size() - 1)) {
            return -1;
        }
        Ship it = ships.get(ship);
        int landed = lots.stream().filter(x -> x.ship == ship && x.month <= it.month).mapToInt(Lot::landed).sum();
        if (now() <= it.month || landed < it.contract / 2.0) {
            return 0;
        }
        return Math.min(landed, it.contract) * value(it.month, now(), "premium") / 100;
    }

    boolean swear(int place) {
        if (over() || !in(place, 0, 29) || sworn.contains(place)) {
            return false;
        }
        return sworn.add(place);
    }

    int show(int place, int token, int gate) {
        if (over() || !in(place, 0, 29) || !in(token, 0, 1) || !in(gate, 0, 3)) {
            return -1;
        }
        int answer = 0;
        if (!list(now(), now()).seats.containsKey(place)) {
            answer = 1;
        } else if (sworn.contains(place) != (token == 1)) {
            answer = 2;
        } else if (good.contains(place)) {
            answer = 3;
        }
        if (answer == 0) {
            good.add(place);
        } else {
            bad.add(gate);
        }
        return answer;
    }

    int frauds(int gate) {
        return in(gate, 0, 3) ? (int) bad.stream().filter(g -> g == gate).count() : -1;
    }

    int part() {
        if (over()) {
            return -1;
        }
        int m = now();
        int before = grains.size();
        grains.removeIf(k -> spoils(k, m));
        int thrown = before - grains.size();
        Map<Integer, Seat> seats = list(m, m).seats;
        seats.keySet().retainAll(good);
        int all = seats.size() * value(m, m, "share");
        boolean lean = all > grains.size();
        int sum = 0;
        int served = 0;
        for (Map.Entry<Integer, Integer> due : dues(seats, lean).entrySet()) {
            for (int i = 0; i < due.getValue(); i++) {
                gifts.add(new Gift(m, due.getKey(), seats.get(due.getKey()).citizen, grains.remove(0)));
            }
            sum += due.getValue();
            served += due.getValue() > 0 ? 1 : 0;
        }
        parted.add(new int[] {sum, served, lean ? 1 : 0, thrown, grains.size(), all});
        sworn.clear();
        good.clear();
        bad.clear();
        return sum;
    }

    private boolean spoils(int k, int m) {
        int keeps = value(m, m, "spoil") - (lots.get(k).damp ? value(m, m, "damp") : 0);
        boolean gone = m - lots.get(k).month > Math.max(keeps, 0);
        spoilt[k] += gone ? 1 : 0;
        return gone;
    }

    private Map<Integer, Integer> dues(Map<Integer, Seat> seats, boolean lean) {
        int m = now();
        Map<Integer, Integer> dues = new TreeMap<>();
        seats.forEach((place, seat) -> dues.put(place,
                value(m, m, "share") * (lean ? value(m, m, "rank" + seat.rank) : 100) / 100));
        int all = dues.values().stream().mapToInt(x -> x).sum();
        int there = grains.size();
        if (all > there) {
            List<Integer> places = new ArrayList<>(dues.keySet());
            places.removeIf(place -> dues.get(place) == 0);
            dues.replaceAll((place, due) -> due * there / all);
            int over = there - dues.values().stream().mapToInt(x -> x).sum();
            for (int i = 0; i < over; i++) {
                dues.merge(places.get(i), 1, Integer::sum);
            }
        }
        return dues;
    }

    int month(int m, int what) {
        return in(m, 0, now() - 1) && in(what, 0, 5) ? parted.get(m)[what] : -1;
    }

    private List<Gift> giftsOf(int place, int m) {
        return gifts.stream().filter(g -> g.place == place && g.month == m).toList();
    }

    int given(int place, int m) {
        return in(place, 0, 29) && in(m, 0, now() - 1) ? giftsOf(place, m).size() : -1;
    }

    int from(int place, int m, int i) {
        List<Gift> mine = giftsOf(place, m);
        return in(i, 0, mine.size() - 1) ? mine.get(i).lot : -1;
    }

    int back(int citizen) {
        if (!in(citizen, 0, 99)) {
            return -1;
        }
        int owed = 0;
        for (int month = 0; month < now(); month++) {
            int m = month;
            Map<Integer, Seat> seats = list(m, now()).seats;
            long wrongly = gifts.stream().filter(g -> g.month == m && g.citizen == citizen)
                    .filter(g -> !seats.containsKey(g.place) || seats.get(g.place).citizen != citizen).count();
            owed += (int) wrongly * value(m, now(), "back") / 100;
        }
        return owed;
    }

    int count(int what) {
        if (in(what, 10, 13)) {
            return lies(what - 10);
        }
        return in(what, 0, 6) ? new int[] {now(), laws.size(), entries.size(), ships.size(), lots.size(),
            tape.length(), grains.size()}[what] : -1;
    }
}
