import java.util.Arrays;

/**
 * The dole of a city, month by month: the list of those who hold places, the laws, the corn in the
 * granaries, the tokens shown, and the record of what was given to whom.
 */
public final class GrainDole {
    public static final int NONE = -1;

    private static final int MONTHS = 120;
    private static final int PLACES = 30;
    private static final int CITIZENS = 100;
    private static final int RANKS = 4;
    private static final int GRANARIES = 4;
    private static final int GATES = 4;

    // A law's values, in the order in which holds() asks for them; the ranks' stand behind them.
    private static final int SHARE = 0;
    private static final int SPOIL = 1;
    private static final int DAMP = 2;
    private static final int SALE = 3;
    private static final int BACK = 4;
    private static final int PREMIUM = 5;
    private static final int RANK = 6;
    private static final int VALUES = RANK + RANKS;

    private final Tape tape = new Tape();
    private final LawReader reader = new LawReader(tape);
    private final LawBook laws = new LawBook();
    private final Roll roll = new Roll();
    private final Standing standing = new Standing(roll, laws);
    private final Fleet fleet = new Fleet();
    private final Stores stores = new Stores();
    private final Tokens tokens = new Tokens();
    private final Ledger ledger = new Ledger();
    private final Parting parting = new Parting(standing, stores, tokens, ledger);
    private int now = 0;

    public GrainDole() {
    }

    public int feed(int a, int b, int c, int d, int e) {
        if (!tape.hasSpace(20)) {
            return NONE;
        }
        tape.append(a);
        tape.append(b);
        tape.append(c);
        tape.append(d);
        tape.append(e);
        return tape.length();
    }

    public int end(int n) {
        if (n < 0 || n > tape.length()) {
            return NONE;
        }
        tape.cut(n);
        return n;
    }

    public int law(int month) {
        int answer = NONE;
        if (!isOver() && !laws.isFull() && isMonth(month)) {
            int fault = reader.read();
            answer = fault == 0 ? laws.add(month, now, reader) : -2 - fault;
        }
        tape.cut(0);
        return answer;
    }

    public int holds(int month, int known, int what) {
        if (!isMonth(month) || !isMonth(known)) {
            return NONE;
        }
        int number = laws.inForce(month, known);
        if (what == 6) {
            return number;
        }
        if (what >= SHARE && what <= PREMIUM) {
            return laws.value(number, what);
        }
        if (what >= 10 && what < 10 + RANKS) {
            return laws.value(number, RANK + what - 10);
        }
        return NONE;
    }

    public int enter(int kind, int month, int a, int b, int c) {
        if (isOver() || roll.isFull() || month < 0 || month > now || !Roll.canBe(kind, a, b, c)) {
            return NONE;
        }
        return roll.add(kind, month, a, b, c, now);
    }

    public int isVoid(int entry, int known) {
        if (!roll.has(entry) || !isMonth(known) || roll.knownFrom(entry) > known) {
            return NONE;
        }
        standing.draw(roll.monthOf(entry), known);
        return standing.wasVoid(entry) ? 1 : 0;
    }

    public int holder(int place, int month, int known) {
        if (!isPlace(place) || !isMonth(month) || !isMonth(known)) {
            return NONE;
        }
        standing.draw(month, known);
        return standing.citizenAt(place);
    }

    public int rank(int place, int month, int known) {
        if (!isPlace(place) || !isMonth(month) || !isMonth(known)) {
            return NONE;
        }
        standing.draw(month, known);
        return standing.rankAt(place);
    }

    public int ship(int measures, int month) {
        if (isOver() || fleet.isFull() || !isCargo(measures) || month < now || !isMonth(month)) {
            return NONE;
        }
        return fleet.add(measures, month);
    }

    public int room(int granary, int measures) {
        if (!isGranary(granary) || measures < stores.lyingIn(granary) || measures > Stores.MOST_ROOM) {
            return NONE;
        }
        return stores.changeRoom(granary, measures);
    }

    public int land(int ship, int granary, int measures, boolean damp) {
        if (isOver() || stores.isFull() || !fleet.has(ship) || !isGranary(granary) || !isCargo(measures)) {
            return NONE;
        }
        int landed = Math.min(measures, stores.spaceIn(granary));
        if (landed > 0) {
            stores.add(ship, granary, now, landed, damp);
        }
        return landed;
    }

    public int lot(int k, int what) {
        return stores.has(k) ? stores.fact(k, what) : NONE;
    }

    public int premium(int ship) {
        if (!fleet.has(ship)) {
            return NONE;
        }
        int month = fleet.monthOf(ship);
        int contract = fleet.contractOf(ship);
        int landed = Math.min(contract, stores.landedBy(ship, month));
        if (now <= month || 2 * landed < contract) {
            return 0;
        }
        return landed * laws.value(laws.inForce(month, now), PREMIUM) / 100;
    }

    public boolean swear(int place) {
        if (isOver() || !isPlace(place) || tokens.isSworn(place)) {
            return false;
        }
        tokens.setSworn(place);
        return true;
    }

    public int show(int place, int token, int gate) {
        if (isOver() || !isPlace(place) || token < 0 || token > 1 || !isGate(gate)) {
            return NONE;
        }
        standing.draw(now, now);
        int answer = standing.citizenAt(place) == NONE ? Tokens.NOBODY : tokens.judge(place, token);
        tokens.note(place, gate, answer);
        return answer;
    }

    public int frauds(int gate) {
        return isGate(gate) ? tokens.fraudsAt(gate) : NONE;
    }

    public int part() {
        if (isOver()) {
            return NONE;
        }
        int number = laws.inForce(now, now);
        int thrown = stores.throwOut(now, laws.value(number, SPOIL), laws.value(number, DAMP));
        standing.draw(now, now);
        parting.settle(laws, number);
        int handed = parting.handOut();
        ledger.close(now, handed, thrown, stores.lyingInAll(), parting.dueByShare(), parting.isLean());
        tokens.clear();
        now++;
        return handed;
    }

    public int month(int m, int what) {
        return isParted(m) ? ledger.fact(m, what) : NONE;
    }

    public int given(int place, int m) {
        return isPlace(place) && isParted(m) ? ledger.sum(place, m) : NONE;
    }

    public int from(int place, int m, int i) {
        return isPlace(place) && isParted(m) && i >= 0 ? ledger.lotOf(place, m, i) : NONE;
    }

    public int back(int citizen) {
        if (!isCitizen(citizen)) {
            return NONE;
        }
        int owed = 0;
        // The lists of later months go on where the earlier one's stopped, so one pass serves all.
        standing.open(now);
        for (int m = 0; m < now; m++) {
            standing.advance(m);
            int wrongly = ledger.hadWrongly(citizen, m, standing);
            if (wrongly > 0) {
                owed += wrongly * laws.value(laws.inForce(m, now), BACK) / 100;
            }
        }
        return owed;
    }

    public int count(int what) {
        switch (what) {
            case 0:
                return now;
            case 1:
                return laws.size();
            case 2:
                return roll.size();
            case 3:
                return fleet.size();
            case 4:
                return stores.size();
            case 5:
                return tape.length();
            case 6:
                return stores.lyingInAll();
            default:
                return what >= 10 && what < 10 + GRANARIES ? stores.lyingIn(what - 10) : NONE;
        }
    }

    private boolean isOver() {
        return now >= MONTHS;
    }

    private boolean isParted(int m) {
        return m >= 0 && m < now;
    }

    private static boolean isMonth(int month) {
        return month >= 0 && month < MONTHS;
    }

    private static boolean isPlace(int place) {
        return place >= 0 && place < PLACES;
    }

    private static boolean isCitizen(int citizen) {
        return citizen >= 0 && citizen < CITIZENS;
    }

    private static boolean isRank(int rank) {
        return rank >= 0 && rank < RANKS;
    }

    private static boolean isGranary(int granary) {
        return granary >= 0 && granary < GRANARIES;
    }

    private static boolean isGate(int gate) {
        return gate >= 0 && gate < GATES;
    }

    private static boolean isCargo(int measures) {
        return measures >= 1 && measures <= 3000;
    }

    /** The bytes that came and are not yet a law. */
    private static final class Tape {
        static final int MOST = 200;
        static final int PAST_END = -1;

        private final int[] bytes = new int[MOST];
        private int length = 0;

        int length() {
            return length;
        }

        boolean hasSpace(int more) {
            return more <= MOST - length;
        }

        void append(int number) {
            for (int shift = 24; shift >= 0 && length < MOST; shift -= 8) {
                bytes[length] = (number >>> shift) & 255;
                length++;
            }
        }

        void cut(int n) {
            if (n >= 0 && n <= length) {
                length = n;
            }
        }

        int at(int place) {
            return place >= 0 && place < length ? bytes[place] : PAST_END;
        }
    }

    /** Reads the tape as a law: its values, or the first fault along the text. */
    private static final class LawReader {
        private static final int CANNOT_STAND = 0;
        private static final int NOT_AS_TOLD = 1;
        private static final int TWICE = 2;
        private static final int MOST_DIGITS = 4;
        private static final int[] LEAST = {1, 0, 0, 0, 0, 0, 0, 0, 0, 0};
        private static final int[] MOST = {50, 60, 60, 1, 200, 100, 100, 100, 100, 100};

        private final Tape tape;
        private final int[] values = new int[VALUES];
        private final boolean[] told = new boolean[VALUES];
        private int place = 0;
        private int tokenStart = 0;
        private int fault = 0;

        LawReader(Tape tape) {
            this.tape = tape;
        }

        /** The FAULT, 0 if there is none; without one, value() tells what the text says. */
        int read() {
            startAnew();
            startToken();
            boolean more = tape.at(place) != Tape.PAST_END;
            for (int clauses = 0; more && clauses < Tape.MOST; clauses++) {
                readClause();
                more = fault == 0 && goesOn();
            }
            return fault;
        }

        int value(int which) {
            return which >= 0 && which < VALUES ? values[which] : NONE;
        }

        private void startAnew() {
            for (int which = 0; which < VALUES; which++) {
                values[which] = LawBook.WITHOUT[which];
                told[which] = false;
            }
            place = 0;
            fault = 0;
        }

        private void readClause() {
            readWord();
            int which = clauseNamed();
            if (which == NONE) {
                refuse(CANNOT_STAND);
                return;
            }
            if (which == RANK) {
                which = RANK + readNumber(0, RANKS - 1);
            }
            // The last token is the word, or a rank's r: just where a clause told twice is faulty.
            if (fault == 0 && told[which]) {
                refuse(TWICE);
            }
            if (fault == 0) {
                values[which] = which == SALE ? readYesOrNo() : readNumber(LEAST[which], MOST[which]);
                told[which] = true;
            }
        }

        /** Behind a clause: whether a ; calls for another one; anything else but the end is a fault. */
        private boolean goesOn() {
            startToken();
            if (tape.at(place) == ';') {
                place++;
                return true;
            }
            if (tape.at(place) != Tape.PAST_END) {
                refuse(CANNOT_STAND);
            }
            return false;
        }

        private int readYesOrNo() {
            readWord();
            boolean yes = isWord("yes");
            if (!yes && !isWord("no")) {
                refuse(CANNOT_STAND);
            }
            return yes ? 1 : 0;
        }

        private void readWord() {
            startToken();
            while (place < tape.length() && isBetween(tape.at(place), 'a', 'z')) {
                place++;
            }
        }

        /** A number that is refused answers the least one, so that the answer can always be an index. */
        private int readNumber(int least, int most) {
            startToken();
            int value = 0;
            while (place < tape.length() && isBetween(tape.at(place), '0', '9')) {
                // Digits beyond the fourth are a fault anyway; left out, they can't make it wrap around.
                if (place - tokenStart < MOST_DIGITS) {
                    value = value * 10 + tape.at(place) - '0';
                }
                place++;
            }
            int digits = place - tokenStart;
            if (digits == 0) {
                refuse(CANNOT_STAND);
            } else if (digits > MOST_DIGITS || !isBetween(value, least, most)) {
                refuse(NOT_AS_TOLD);
            }
            return fault == 0 ? value : least;
        }

        private void startToken() {
            while (place < tape.length() && tape.at(place) == ' ') {
                place++;
            }
            tokenStart = place;
        }

        private int clauseNamed() {
            if (isWord("share")) {
                return SHARE;
            }
            if (isWord("rank")) {
                return RANK;
            }
            if (isWord("spoil")) {
                return SPOIL;
            }
            if (isWord("damp")) {
                return DAMP;
            }
            if (isWord("sale")) {
                return SALE;
            }
            if (isWord("back")) {
                return BACK;
            }
            return isWord("premium") ? PREMIUM : NONE;
        }

        private boolean isWord(String word) {
            int length = place - tokenStart;
            if (length != word.length()) {
                return false;
            }
            for (int i = 0; i < length; i++) {
                if (tape.at(tokenStart + i) != word.charAt(i)) {
                    return false;
                }
            }
            return true;
        }

        private void refuse(int kind) {
            fault = 1 + 8 * tokenStart + kind;
        }

        private static boolean isBetween(int value, int least, int most) {
            return value >= least && value <= most;
        }
    }

    /** The laws told so far. */
    private static final class LawBook {
        static final int[] WITHOUT = {5, 12, 6, 0, 100, 0, 100, 100, 100, 100};
        private static final int MOST = 8;

        private final int[] values = new int[MOST * VALUES];
        private final int[] months = new int[MOST];
        private final int[] knownFrom = new int[MOST];
        private int size = 0;

        int size() {
            return size;
        }

        boolean isFull() {
            return size >= MOST;
        }

        int add(int month, int now, LawReader reader) {
            if (isFull()) {
                return NONE;
            }
            for (int which = 0; which < VALUES; which++) {
                values[size * VALUES + which] = reader.value(which);
            }
            months[size] = month;
            knownFrom[size] = now;
            size++;
            return size - 1;
        }

        /** The number of the law that holds in a month as known in one, or NONE. */
        int inForce(int month, int known) {
            int best = NONE;
            for (int k = 0; k < size; k++) {
                boolean counts = knownFrom[k] <= known && months[k] <= month;
                if (counts && (best == NONE || months[k] >= months[best])) {
                    best = k;
                }
            }
            return best;
        }

        int value(int number, int which) {
            if (which < 0 || which >= VALUES) {
                return NONE;
            }
            return number >= 0 && number < size ? values[number * VALUES + which] : WITHOUT[which];
        }
    }

    /** The entries told so far, and the order in which a list takes them. */
    private static final class Roll {
        static final int ENROLLED = 0;
        static final int DIED = 1;
        static final int SOLD = 2;
        static final int STRUCK = 3;
        static final int MOST = 150;

        private final int[] kinds = new int[MOST];
        private final int[] months = new int[MOST];
        private final int[] places = new int[MOST];
        private final int[] citizens = new int[MOST];
        private final int[] ranks = new int[MOST];
        private final int[] knownFrom = new int[MOST];
        private final int[] order = new int[MOST];
        private int size = 0;

        static boolean canBe(int kind, int a, int b, int c) {
            switch (kind) {
                case ENROLLED:
                    return isPlace(a) && isCitizen(b) && isRank(c);
                case DIED:
                    return isCitizen(a);
                case SOLD:
                    return isPlace(a) && isCitizen(b);
                case STRUCK:
                    return isPlace(a);
                default:
                    return false;
            }
        }

        int size() {
            return size;
        }

        boolean isFull() {
            return size >= MOST;
        }

        boolean has(int entry) {
            return entry >= 0 && entry < size;
        }

        int add(int kind, int month, int a, int b, int c, int now) {
            if (isFull()) {
                return NONE;
            }
            kinds[size] = kind;
            months[size] = month;
            places[size] = a;
            citizens[size] = kind == DIED ? a : b;
            ranks[size] = c;
            knownFrom[size] = now;
            putInOrder(size);
            size++;
            return size - 1;
        }

        /** A new entry has the highest number, so it stands behind all others of its month. */
        private void putInOrder(int entry) {
            int at = entry;
            while (at > 0 && months[order[at - 1]] > months[entry]) {
                order[at] = order[at - 1];
                at--;
            }
            order[at] = entry;
        }

        int inOrder(int position) {
            return has(position) ? order[position] : NONE;
        }

        int kindOf(int entry) {
            return has(entry) ? kinds[entry] : NONE;
        }

        int monthOf(int entry) {
            return has(entry) ? months[entry] : NONE;
        }

        int placeOf(int entry) {
            return has(entry) ? places[entry] : NONE;
        }

        int citizenOf(int entry) {
            return has(entry) ? citizens[entry] : NONE;
        }

        int rankOf(int entry) {
            return has(entry) ? ranks[entry] : NONE;
        }

        int knownFrom(int entry) {
            return has(entry) ? knownFrom[entry] : NONE;
        }
    }

    /** The list of a month as known in one, drawn anew whenever it is asked for. */
    private static final class Standing {
        private final Roll roll;
        private final LawBook laws;
        private final int[] citizens = new int[PLACES];
        private final int[] ranks = new int[PLACES];
        private final int[] places = new int[CITIZENS];
        private final boolean[] dead = new boolean[CITIZENS];
        private final boolean[] voids = new boolean[Roll.MOST];
        private int known = 0;
        private int taken = 0;

        Standing(Roll roll, LawBook laws) {
            this.roll = roll;
            this.laws = laws;
        }

        void draw(int month, int asKnown) {
            open(asKnown);
            advance(month);
        }

        void open(int asKnown) {
            Arrays.fill(citizens, NONE);
            Arrays.fill(places, NONE);
            for (int citizen = 0; citizen < CITIZENS; citizen++) {
                dead[citizen] = false;
            }
            known = asKnown;
            taken = 0;
        }

        /** Takes the entries on, up to those of a month. */
        void advance(int month) {
            while (taken < roll.size() && roll.monthOf(roll.inOrder(taken)) <= month) {
                int entry = roll.inOrder(taken);
                if (roll.has(entry) && roll.knownFrom(entry) <= known) {
                    voids[entry] = !comesAbout(entry);
                }
                taken++;
            }
        }

        boolean wasVoid(int entry) {
            return roll.has(entry) && voids[entry];
        }

        int citizenAt(int place) {
            return isPlace(place) ? citizens[place] : NONE;
        }

        int rankAt(int place) {
            return citizenAt(place) == NONE ? NONE : ranks[place];
        }

        private boolean comesAbout(int entry) {
            int place = roll.placeOf(entry);
            int citizen = roll.citizenOf(entry);
            switch (roll.kindOf(entry)) {
                case Roll.ENROLLED:
                    return enrol(place, citizen, roll.rankOf(entry));
                case Roll.DIED:
                    return bury(citizen);
                case Roll.SOLD:
                    return sell(place, citizen, roll.monthOf(entry));
                case Roll.STRUCK:
                    return strike(place);
                default:
                    return false;
            }
        }

        private boolean enrol(int place, int citizen, int rank) {
            if (!isPlace(place) || citizens[place] != NONE || !canTakePlace(citizen)) {
                return false;
            }
            seat(place, citizen);
            ranks[place] = rank;
            return true;
        }

        private boolean bury(int citizen) {
            if (!isCitizen(citizen) || dead[citizen]) {
                return false;
            }
            dead[citizen] = true;
            vacate(places[citizen]);
            return true;
        }

        private boolean sell(int place, int citizen, int month) {
            boolean salesLet = laws.value(laws.inForce(month, known), SALE) == 1;
            if (!salesLet || citizenAt(place) == NONE || !canTakePlace(citizen)) {
                return false;
            }
            vacate(place);
            seat(place, citizen);
            return true;
        }

        private boolean strike(int place) {
            if (citizenAt(place) == NONE) {
                return false;
            }
            vacate(place);
            return true;
        }

        private boolean canTakePlace(int citizen) {
            return isCitizen(citizen) && !dead[citizen] && places[citizen] == NONE;
        }

        private void seat(int place, int citizen) {
            citizens[place] = citizen;
            places[citizen] = place;
        }

        private void vacate(int place) {
            if (!isPlace(place)) {
                return;
            }
            int citizen = citizens[place];
            if (isCitizen(citizen)) {
                places[citizen] = NONE;
            }
            citizens[place] = NONE;
        }
    }

    /** The ships under contract. */
    private static final class Fleet {
        private static final int MOST = 30;

        private final int[] contracts = new int[MOST];
        private final int[] months = new int[MOST];
        private int size = 0;

        int size() {
            return size;
        }

        boolean isFull() {
            return size >= MOST;
        }

        boolean has(int number) {
            return number >= 0 && number < size;
        }

        int add(int measures, int month) {
            if (isFull()) {
                return NONE;
            }
            contracts[size] = measures;
            months[size] = month;
            size++;
            return size - 1;
        }

        int contractOf(int number) {
            return has(number) ? contracts[number] : 0;
        }

        int monthOf(int number) {
            return has(number) ? months[number] : NONE;
        }
    }

    /** The granaries and the lots in them; lots are numbered as they land, so the earliest come first. */
    private static final class Stores {
        static final int MOST = 100;
        static final int MOST_ROOM = 5000;

        private final int[] rooms = {1000, 1000, 1000, 1000};
        private final int[] lying = new int[GRANARIES];
        private final int[] ships = new int[MOST];
        private final int[] granaries = new int[MOST];
        private final int[] months = new int[MOST];
        private final int[] landed = new int[MOST];
        private final int[] rest = new int[MOST];
        private final int[] thrown = new int[MOST];
        private final boolean[] damps = new boolean[MOST];
        private int size = 0;

        int size() {
            return size;
        }

        boolean isFull() {
            return size >= MOST;
        }

        boolean has(int number) {
            return number >= 0 && number < size;
        }

        int lyingIn(int granary) {
            return isGranary(granary) ? lying[granary] : 0;
        }

        int lyingInAll() {
            int all = 0;
            for (int granary = 0; granary < GRANARIES; granary++) {
                all += lying[granary];
            }
            return all;
        }

        int spaceIn(int granary) {
            return isGranary(granary) ? rooms[granary] - lying[granary] : 0;
        }

        /** What the room was. */
        int changeRoom(int granary, int measures) {
            if (!isGranary(granary)) {
                return NONE;
            }
            int was = rooms[granary];
            rooms[granary] = measures;
            return was;
        }

        void add(int ship, int granary, int now, int measures, boolean damp) {
            if (isFull() || !isGranary(granary)) {
                return;
            }
            ships[size] = ship;
            granaries[size] = granary;
            months[size] = now;
            landed[size] = measures;
            rest[size] = measures;
            thrown[size] = 0;
            damps[size] = damp;
            lying[granary] += measures;
            size++;
        }

        int fact(int number, int what) {
            if (!has(number)) {
                return NONE;
            }
            switch (what) {
                case 0:
                    return ships[number];
                case 1:
                    return granaries[number];
                case 2:
                    return months[number];
                case 3:
                    return landed[number];
                case 4:
                    return rest[number];
                case 5:
                    return thrown[number];
                default:
                    return NONE;
            }
        }

        int landedBy(int ship, int month) {
            int all = 0;
            for (int k = 0; k < size; k++) {
                if (ships[k] == ship && months[k] <= month) {
                    all += landed[k];
                }
            }
            return all;
        }

        /** Throws out what is not sound in a month: how much that was. */
        int throwOut(int month, int spoil, int damp) {
            int all = 0;
            for (int k = 0; k < size; k++) {
                int keeps = damps[k] ? Math.max(0, spoil - damp) : spoil;
                if (month - months[k] > keeps) {
                    int gone = take(k, rest[k]);
                    thrown[k] += gone;
                    all += gone;
                }
            }
            return all;
        }

        /** Takes what a lot still has of so many measures: how many that are. */
        int take(int number, int wanted) {
            if (!has(number)) {
                return 0;
            }
            int got = Math.min(wanted, rest[number]);
            rest[number] -= got;
            lying[granaries[number]] -= got;
            return got;
        }
    }

    /** The tokens of this month. */
    private static final class Tokens {
        static final int GOOD = 0;
        static final int NOBODY = 1;
        static final int NO_SUCH_TOKEN = 2;
        static final int AGAIN = 3;

        private final boolean[] sworn = new boolean[PLACES];
        private final boolean[] shown = new boolean[PLACES];
        private final int[] frauds = new int[GATES];

        boolean isSworn(int place) {
            return isPlace(place) && sworn[place];
        }

        void setSworn(int place) {
            if (isPlace(place)) {
                sworn[place] = true;
            }
        }

        boolean wasShownGood(int place) {
            return isPlace(place) && shown[place];
        }

        /** Which token counts turns on the oath alone: without one the first, behind one the second. */
        int judge(int place, int token) {
            int valid = isSworn(place) ? 1 : 0;
            if (token != valid) {
                return NO_SUCH_TOKEN;
            }
            return wasShownGood(place) ? AGAIN : GOOD;
        }

        void note(int place, int gate, int answer) {
            if (answer == GOOD && isPlace(place)) {
                shown[place] = true;
            } else if (isGate(gate)) {
                frauds[gate]++;
            }
        }

        int fraudsAt(int gate) {
            return isGate(gate) ? frauds[gate] : NONE;
        }

        void clear() {
            for (int place = 0; place < PLACES; place++) {
                sworn[place] = false;
                shown[place] = false;
            }
            Arrays.fill(frauds, 0);
        }
    }

    /** The parting of one month: what is due to each place, and its handing out. */
    private static final class Parting {
        private final Standing standing;
        private final Stores stores;
        private final Tokens tokens;
        private final Ledger ledger;
        private final int[] due = new int[PLACES];
        private int dueByShare = 0;
        private boolean lean = false;

        Parting(Standing standing, Stores stores, Tokens tokens, Ledger ledger) {
            this.standing = standing;
            this.stores = stores;
            this.tokens = tokens;
            this.ledger = ledger;
        }

        int dueByShare() {
            return dueByShare;
        }

        boolean isLean() {
            return lean;
        }

        /** Finds what is due, by the list that was drawn last. */
        void settle(LawBook laws, int number) {
            int there = stores.lyingInAll();
            dueByShare = dueShares(laws.value(number, SHARE));
            lean = dueByShare > there;
            if (!lean) {
                return;
            }
            int dueByRank = cutByRank(laws, number);
            if (dueByRank > there) {
                cutToWhatIsThere(dueByRank, there);
            }
        }

        /** How many measures were handed out. */
        int handOut() {
            int all = 0;
            for (int place = 0; place < PLACES; place++) {
                all += hand(place);
            }
            return all;
        }

        private int dueShares(int share) {
            int all = 0;
            for (int place = 0; place < PLACES; place++) {
                boolean gets = tokens.wasShownGood(place) && standing.citizenAt(place) != NONE;
                due[place] = gets ? share : 0;
                all += due[place];
            }
            return all;
        }

        private int cutByRank(LawBook laws, int number) {
            int all = 0;
            for (int place = 0; place < PLACES; place++) {
                if (due[place] > 0) {
                    due[place] = due[place] * laws.value(number, RANK + standing.rankAt(place)) / 100;
                    all += due[place];
                }
            }
            return all;
        }

        private void cutToWhatIsThere(int all, int there) {
            if (all <= 0) {
                return;
            }
            int over = there;
            for (int place = 0; place < PLACES; place++) {
                over -= due[place] * there / all;
            }
            for (int place = 0; place < PLACES; place++) {
                int portion = due[place] * there / all;
                if (due[place] > 0 && over > 0) {
                    portion++;
                    over--;
                }
                due[place] = portion;
            }
        }

        private int hand(int place) {
            int open = due[place];
            for (int k = 0; k < stores.size() && open > 0; k++) {
                int got = stores.take(k, open);
                if (got > 0) {
                    ledger.note(place, standing.citizenAt(place), k, got);
                    open -= got;
                }
            }
            return due[place] - open;
        }
    }

    /** What was given: a row of facts for each month, and gifts, each out of one lot for one place. */
    private static final class Ledger {
        private static final int FACTS = 6;
        private static final int MOST_GIFTS = MONTHS * PLACES + Stores.MOST;

        private final int[] facts = new int[MONTHS * FACTS];
        private final int[] ends = new int[MONTHS];
        // These grow: few objects ever need rows for every place in every month.
        private int[] places = new int[32];
        private int[] citizens = new int[32];
        private int[] lots = new int[32];
        private int[] measures = new int[32];
        private int size = 0;

        void note(int place, int citizen, int lot, int got) {
            // A gift ends with its place's due or with its lot, so there can't be more than this.
            if (size >= MOST_GIFTS) {
                return;
            }
            if (size >= places.length) {
                grow(2 * size);
            }
            places[size] = place;
            citizens[size] = citizen;
            lots[size] = lot;
            measures[size] = got;
            size++;
        }

        private void grow(int length) {
            places = Arrays.copyOf(places, length);
            citizens = Arrays.copyOf(citizens, length);
            lots = Arrays.copyOf(lots, length);
            measures = Arrays.copyOf(measures, length);
        }

        void close(int m, int handed, int thrown, int left, int dueByShare, boolean lean) {
            if (!isMonth(m)) {
                return;
            }
            ends[m] = size;
            facts[m * FACTS] = handed;
            facts[m * FACTS + 1] = placesServed(m);
            facts[m * FACTS + 2] = lean ? 1 : 0;
            facts[m * FACTS + 3] = thrown;
            facts[m * FACTS + 4] = left;
            facts[m * FACTS + 5] = dueByShare;
        }

        int fact(int m, int what) {
            return isMonth(m) && what >= 0 && what < FACTS ? facts[m * FACTS + what] : NONE;
        }

        int sum(int place, int m) {
            int all = 0;
            for (int k = startOf(m); k < endOf(m); k++) {
                if (places[k] == place) {
                    all += measures[k];
                }
            }
            return all;
        }

        int lotOf(int place, int m, int i) {
            int ahead = i;
            for (int k = startOf(m); k < endOf(m); k++) {
                if (places[k] == place) {
                    if (ahead < measures[k]) {
                        return lots[k];
                    }
                    ahead -= measures[k];
                }
            }
            return NONE;
        }

        /** What a citizen was given in a month for a place that he does not hold by a list. */
        int hadWrongly(int citizen, int m, Standing list) {
            int all = 0;
            for (int k = startOf(m); k < endOf(m); k++) {
                if (citizens[k] == citizen && list.citizenAt(places[k]) != citizen) {
                    all += measures[k];
                }
            }
            return all;
        }

        /** Gifts for one place stand together, so a new place begins wherever it changes. */
        private int placesServed(int m) {
            int served = 0;
            int last = NONE;
            for (int k = startOf(m); k < endOf(m); k++) {
                if (places[k] != last) {
                    served++;
                    last = places[k];
                }
            }
            return served;
        }

        private int startOf(int m) {
            return m > 0 ? endOf(m - 1) : 0;
        }

        private int endOf(int m) {
            return isMonth(m) ? ends[m] : 0;
        }
    }
}
