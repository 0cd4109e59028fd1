import java.util.Arrays;

/** A dairy, told in a language, in which milk turns by whose hands hold it. */
public final class TurningMilk {
    public static final int NONE = -1;

    private static final int MOST_RULES = 6;
    private static final int MOST_IMAGES = 4;
    private static final int MOST_TURNED = 999;
    private static final int MOST_TIRED = 99;
    private static final int LAST_HOUR = 999;
    private static final int MOST_PLACES = 6;
    private static final int MOST_ROADS = 8;
    private static final int MOST_HANDS = 5;
    private static final int MOST_JUGS = 4;
    private static final int MOST_HEATS = 4;
    private static final int MOST_WANTS = 6;
    private static final int MOST_TESTS = 10;
    private static final int MOST_HELD = 2;
    private static final int MOST_UNDONE = 20;
    private static final int TAPE_BYTES = 400;
    private static final int MOST_INT = 2147483647;

    private static final int[] NO_RULE = {};

    private final Tape tape = new Tape();
    private final Scene now = new Scene();
    private final Scene[] images = new Scene[MOST_IMAGES];
    /** The STATES ahead of the last ACTS; a ring, as older ones are let go. */
    private final State[] past = new State[MOST_UNDONE];
    private int nextPast;
    private int undoable;
    private final int[][] codes = new int[MOST_RULES][];
    private int rules;
    private final DairyReader dairyReader = new DairyReader(tape);
    private final RuleReader ruleReader = new RuleReader(tape);
    private final Turning turning = new Turning(now.told);
    private final Hours passing = new Hours(turning);
    private final Relay rowsOfHands = new Relay(turning);
    private final Tables tables = new Tables(now.told);
    private final Trials trials = new Trials(now, turning);
    private final State supposed = new State();

    public TurningMilk() {
        for (int i = 0; i < MOST_IMAGES; i++) {
            images[i] = new Scene();
        }
        for (int i = 0; i < MOST_RULES; i++) {
            codes[i] = NO_RULE;
        }
        for (int i = 0; i < MOST_UNDONE; i++) {
            past[i] = new State();
        }
    }

    public int feed(int a, int b, int c, int d, int e) {
        if (!tape.hasRoomFor(20)) {
            return NONE;
        }
        tape.add(a);
        tape.add(b);
        tape.add(c);
        tape.add(d);
        tape.add(e);
        return tape.length;
    }

    public int end(int n) {
        if (n < 0 || n > tape.length) {
            return NONE;
        }
        tape.length = n;
        return n;
    }

    public int dairy() {
        boolean sound = dairyReader.read();
        tape.length = 0;
        if (!sound) {
            return -2 - tape.fault;
        }
        now.told.become(dairyReader.told);
        now.state.become(dairyReader.state);
        now.tests = 0;
        undoable = 0;
        return now.told.jugs;
    }

    public int rule() {
        if (rules >= MOST_RULES) {
            return NONE;
        }
        boolean sound = ruleReader.read();
        tape.length = 0;
        if (!sound) {
            return -2 - tape.fault;
        }
        codes[rules] = ruleReader.copyOfCode();
        rules++;
        return rules - 1;
    }

    public int force(int rule) {
        if (rule < NONE || rule >= rules) {
            return -2;
        }
        int was = now.force;
        now.force = rule;
        enforce();
        return was;
    }

    private void enforce() {
        boolean told = now.force >= 0 && now.force < MOST_RULES;
        turning.code = told ? codes[now.force] : NO_RULE;
    }

    private boolean isPlace(int place) {
        return place >= 0 && place < now.told.places;
    }

    private boolean isHand(int hand) {
        return hand >= 0 && hand < now.told.hands;
    }

    private boolean isJug(int jug) {
        return jug >= 0 && jug < now.told.jugs;
    }

    private boolean isWant(int want) {
        return want >= 0 && want < now.told.wants;
    }

    private boolean isStandingJug(int jug) {
        return isJug(jug) && now.state.stands(jug);
    }

    private static boolean isTurned(int turned) {
        return turned >= 0 && turned <= MOST_TURNED;
    }

    public int hand(int hand, int what) {
        if (!isHand(hand)) {
            return NONE;
        }
        switch (what) {
            case 0:
                return now.state.handPlace[hand];
            case 1:
                return now.state.handToGo[hand];
            case 2:
                return now.state.handTired[hand];
            case 3:
                return now.state.heldBits(hand);
            case 4:
                return now.told.speed[hand];
            case 5:
                return now.told.tires[hand];
            default:
                return NONE;
        }
    }

    public int jug(int jug, int what) {
        if (!isJug(jug)) {
            return -2;
        }
        switch (what) {
            case 0:
                return now.state.jugPlace[jug];
            case 1:
                return now.state.jugHolder[jug];
            case 2:
                return now.state.jugTurned[jug];
            case 3:
                return now.state.jugTurned[jug] >= now.told.sour ? 1 : 0;
            case 4:
                return now.state.isGone(jug) ? 1 : 0;
            default:
                return -2;
        }
    }

    public int want(int want, int what) {
        if (!isWant(want)) {
            return -2;
        }
        switch (what) {
            case 0:
                return now.told.wantPlace[want];
            case 1:
                return now.told.wantLeast[want];
            case 2:
                return now.told.wantMost[want];
            case 3:
                return now.told.wantPay[want];
            case 4:
                return now.state.wantMet[want];
            case 5:
                return jugFor(want) == NONE ? 0 : 1;
            default:
                return -2;
        }
    }

    /** The JUG by which a WANT would be met now, or NONE. */
    private int jugFor(int want) {
        if (now.state.wantMet[want] != NONE) {
            return NONE;
        }
        for (int jug = 0; jug < now.told.jugs; jug++) {
            boolean isThere = now.state.jugPlace[jug] == now.told.wantPlace[want];
            if (isThere && now.told.suits(want, now.state.jugTurned[jug])) {
                return jug;
            }
        }
        return NONE;
    }

    private void keepPast() {
        past[nextPast].become(now.state);
        nextPast = (nextPast + 1) % MOST_UNDONE;
        undoable = Math.min(MOST_UNDONE, undoable + 1);
    }

    public int hour() {
        if (now.told.places == 0 || now.state.hour >= LAST_HOUR) {
            return NONE;
        }
        keepPast();
        return passing.pass(now.state);
    }

    public int take(int hand, int jug) {
        if (!isHand(hand) || !isJug(jug) || !now.state.canTake(hand, jug)) {
            return NONE;
        }
        keepPast();
        now.state.giveTo(hand, jug);
        return now.state.heldBits(hand);
    }

    public int put(int hand, int jug) {
        if (!isHand(hand) || !isJug(jug) || !now.state.isAtPlace(hand)) {
            return NONE;
        }
        if (now.state.jugHolder[jug] != hand) {
            return NONE;
        }
        keepPast();
        now.state.jugHolder[jug] = NONE;
        now.state.jugPlace[jug] = now.state.handPlace[hand];
        return now.state.handPlace[hand];
    }

    public int handOn(int jug, int hand) {
        if (!isHand(hand) || !isJug(jug)) {
            return NONE;
        }
        int holder = now.state.jugHolder[jug];
        if (!isHand(holder) || holder == hand || !now.state.canGive(holder, hand)) {
            return NONE;
        }
        keepPast();
        now.state.giveTo(hand, jug);
        return holder;
    }

    public int go(int hand, int place) {
        if (!isHand(hand) || !isPlace(place)) {
            return NONE;
        }
        int road = now.state.roadFor(now.told, hand, place);
        if (road == 0) {
            return NONE;
        }
        keepPast();
        now.state.setOut(hand, place, road);
        return road;
    }

    public int meet(int want) {
        int jug = isWant(want) ? jugFor(want) : NONE;
        if (jug == NONE) {
            return NONE;
        }
        keepPast();
        now.state.wantMet[want] = now.state.hour;
        now.state.pay += now.told.wantPay[want];
        now.state.jugPlace[jug] = NONE;
        return jug;
    }

    public int undo() {
        if (undoable == 0) {
            return NONE;
        }
        nextPast = (nextPast + MOST_UNDONE - 1) % MOST_UNDONE;
        undoable--;
        now.state.become(past[nextPast]);
        return undoable;
    }

    public int ahead(int number, int n, int what) {
        boolean known = what == 0 ? isJug(number) : what == 1 && isHand(number);
        if (!known || n < 0 || n > 100) {
            return -2;
        }
        if (what == 0 && now.state.isGone(number)) {
            return NONE;
        }
        supposed.become(now.state);
        passing.passSeveral(supposed, n);
        return what == 0 ? supposed.jugTurned[number] : supposed.handTired[number];
    }

    public int way(int from, int to, int what) {
        if (!isPlace(from) || !isPlace(to) || what < 0 || what > 1) {
            return -3;
        }
        if (!now.told.hasWay(from, to)) {
            return -2;
        }
        return what == 0 ? now.told.wayHours(from, to) : now.told.nextPlace(from, to);
    }

    public int brings(int hand, int jug, int place) {
        if (!isHand(hand) || !isStandingJug(jug) || !isPlace(place)) {
            return NONE;
        }
        int from = now.state.jugPlace[jug];
        if (!now.told.hasWay(from, place)) {
            return -2;
        }
        turning.suppose(hand, jug, now.state.jugTurned[jug], now.state.hour);
        turning.road = 1;
        turning.holdFor(now.told.wayHours(from, place));
        return turning.turned;
    }

    public int relay(int jug, int place, int least, int most, int what) {
        if (!isStandingJug(jug) || !isPlace(place) || what < 0 || what > 6) {
            return -3;
        }
        if (!isTurned(least) || !isTurned(most) || most < least) {
            return -3;
        }
        int from = now.state.jugPlace[jug];
        if (!now.told.hasWay(from, place) || (from != place && now.told.hands == 0)) {
            return -2;
        }
        rowsOfHands.setOut(jug, from, place, now.state.hour);
        rowsOfHands.solve(now.state.jugTurned[jug], least, most);
        switch (what) {
            case 0:
                return rowsOfHands.howMany();
            case 1:
                return rowsOfHands.leastTurned();
            default:
                return rowsOfHands.handOfFirst(what - 2);
        }
    }

    public int match(int what) {
        if (now.told.places == 0 || what < 0 || what > MOST_WANTS) {
            return -3;
        }
        if (what > now.told.wants) {
            return -2;
        }
        tables.matchWants(now.state);
        return what == 0 ? tables.mostPay() : tables.jugOfWant(now.state, what - 1);
    }

    public int rest(int hand, int n, int k, int what) {
        if (!isHand(hand) || n < 1 || n > 10 || k < 0 || k > n || what < 0 || what > 1) {
            return NONE;
        }
        int bestSet = 0;
        int bestTurned = MOST_INT;
        for (int set = 0; set < 1 << n; set++) {
            if (Integer.bitCount(set) == k) {
                int turned = trials.turnedByTurns(hand, n, set);
                if (turned < bestTurned) {
                    bestTurned = turned;
                    bestSet = set;
                }
            }
        }
        return what == 0 ? bestSet : bestTurned;
    }

    public int test(int from, int hours, int at, int to) {
        if (now.told.places == 0) {
            return -2;
        }
        if (hours == NONE) {
            now.tests = 0;
            return 0;
        }
        if (!isTurned(from) || !isTurned(to) || hours < 1 || hours > 20 || at < 0 || at > 99) {
            return -2;
        }
        if (now.tests >= MOST_TESTS) {
            return -2;
        }
        now.addTest(from, hours, at, to);
        return now.tests;
    }

    public int who(int what) {
        if (now.told.places == 0 || what < 0 || what > 2) {
            return NONE;
        }
        int bits = trials.handsByTests();
        switch (what) {
            case 0:
                return Integer.bitCount(bits);
            case 1:
                return bits == 0 ? -2 : Integer.numberOfTrailingZeros(bits);
            default:
                return bits;
        }
    }

    public int probe(int what) {
        if (now.told.places == 0 || what < 0 || what > 1) {
            return NONE;
        }
        int bits = trials.handsByTests();
        if (bits == 0) {
            return -2;
        }
        trials.findBestProbe(bits);
        return what == 0 ? trials.probeHours : trials.probeAlike;
    }

    public int rows(int n, int turned, int what) {
        boolean ofFirst = what >= 0 && what <= 11;
        boolean ofSome = what >= 20 && what <= 31;
        if (now.told.places == 0 || n < 1 || n > 12 || turned < 0 || turned > 300) {
            return -3;
        }
        if (what != NONE && !ofFirst && !ofSome) {
            return -3;
        }
        tables.countRows(n, turned);
        int count = tables.rowsOf(n, turned);
        if (what == NONE) {
            return count;
        }
        int at = ofFirst ? what : what - 20;
        if (count == 0 || at >= n) {
            return -2;
        }
        return ofFirst ? tables.handInFirstRow(n, turned, at) : tables.handsInRows(n, turned, at);
    }

    public int ice(int n) {
        if (now.told.places == 0 || n < 1 || n > 60) {
            return NONE;
        }
        supposed.become(now.state);
        passing.passSeveral(supposed, n);
        int warm = supposed.turnedTogether();
        supposed.become(now.state);
        turning.iced = true;
        passing.passSeveral(supposed, n);
        turning.iced = false;
        return warm - supposed.turnedTogether();
    }

    public int seed(int x) {
        if (x < 0) {
            return NONE;
        }
        int was = now.x;
        now.x = x;
        return was;
    }

    public int years(int m, int n, int what) {
        if (now.told.places == 0 || m < 1 || m > 10 || n < 1 || n > 60 || what < 0 || what > 1) {
            return NONE;
        }
        int sum = 0;
        passing.x = now.x;
        for (int year = 0; year < m; year++) {
            supposed.become(now.state);
            passing.passByDraws(supposed, n);
            sum += what == 0 ? supposed.howManySour(now.told.sour) : supposed.turnedTogether();
        }
        return sum;
    }

    public int count(int what) {
        if (what >= 0 && what <= 6) {
            return now.told.howMany(what);
        }
        switch (what) {
            case 7:
                return rules;
            case 8:
                return now.force;
            case 9:
                return now.state.hour;
            case 10:
                return now.told.heatIn(now.state.hour);
            case 11:
                return now.state.pay;
            case 12:
                return now.tests;
            case 13:
                return undoable;
            case 14:
                return now.x;
            case 15:
                return tape.length;
            default:
                return NONE;
        }
    }

    public int image(int k) {
        if (k < 0 || k >= MOST_IMAGES) {
            return NONE;
        }
        images[k].become(now);
        images[k].isMade = true;
        return now.state.hour;
    }

    public int back(int k) {
        if (k < 0 || k >= MOST_IMAGES || !images[k].isMade) {
            return NONE;
        }
        now.become(images[k]);
        undoable = 0;
        enforce();
        return now.state.hour;
    }

    /** The TAPE, and a reader that goes along it until its first FAULT. */
    static final class Tape {
        private static final int END = -1;
        private static final int MOST_DIGITS = 5;

        private final byte[] bytes = new byte[TAPE_BYTES];
        private int length;
        private int at;
        private int start;
        private int fault;

        Tape() {
        }

        boolean hasRoomFor(int more) {
            return length + more <= TAPE_BYTES;
        }

        void add(int four) {
            for (int shift = 24; shift >= 0; shift -= 8) {
                if (length < TAPE_BYTES) {
                    bytes[length] = (byte) (four >> shift);
                    length++;
                }
            }
        }

        void rewind() {
            at = 0;
            start = 0;
            fault = 0;
        }

        private int byteAt(int place) {
            return place >= 0 && place < length && place < TAPE_BYTES ? bytes[place] & 255 : END;
        }

        /** The next byte that is no blank; a FAULT told after this lies there. */
        int look() {
            while (at < length && bytes[at] == ' ') {
                at++;
            }
            start = at;
            return at < length ? bytes[at] & 255 : END;
        }

        boolean isAtEnd() {
            return look() == END;
        }

        /** Whether the sign comes at once: within one of two signs there is no blank. */
        boolean continuesWith(char sign) {
            if (byteAt(at) != sign) {
                return false;
            }
            at++;
            return true;
        }

        boolean takesSign(char sign) {
            if (look() != sign) {
                return false;
            }
            at++;
            return true;
        }

        /** A word ends where small letters do, so a longer one is another. */
        boolean takesWord(String word) {
            look();
            int letters = word.length();
            for (int i = 0; i < letters; i++) {
                if (byteAt(at + i) != word.charAt(i)) {
                    return false;
                }
            }
            int behind = byteAt(at + letters);
            if (behind >= 'a' && behind <= 'z') {
                return false;
            }
            at += letters;
            return true;
        }

        boolean isAtDigit() {
            return isDigit(look());
        }

        private static boolean isDigit(int sign) {
            return sign >= '0' && sign <= '9';
        }

        /** The NUMBER that comes, or NONE if it is at FAULT. */
        int takeNumber(int least, int most) {
            if (!isDigit(look())) {
                refuse(0);
                return NONE;
            }
            int value = 0;
            while (at < length && isDigit(byteAt(at))) {
                value = at - start < MOST_DIGITS ? value * 10 + byteAt(at) - '0' : value;
                at++;
            }
            if (at - start > MOST_DIGITS || value < least || value > most) {
                refuse(1);
                return NONE;
            }
            return value;
        }

        /** Always false, so that a reader can tell and leave in one. */
        boolean refuse(int kind) {
            if (fault == 0) {
                fault = 1 + 8 * start + kind;
            }
            return false;
        }
    }

    /** A DAIRY as told: what no ACT changes. Without PLACES there is none. */
    static final class Told {
        private static final int NO_WAY = 1000;

        private int places;
        private int ground;
        private int sour;
        private int roads;
        private int hands;
        private int jugs;
        private int heats;
        private int wants;
        private final int[] road = new int[MOST_PLACES * MOST_PLACES];
        private final int[] way = new int[MOST_PLACES * MOST_PLACES];
        private final int[] speed = new int[MOST_HANDS];
        private final int[] tires = new int[MOST_HANDS];
        private final int[] heatFirst = new int[MOST_HEATS];
        private final int[] heatLast = new int[MOST_HEATS];
        private final int[] heatMore = new int[MOST_HEATS];
        private final int[] wantPlace = new int[MOST_WANTS];
        private final int[] wantLeast = new int[MOST_WANTS];
        private final int[] wantMost = new int[MOST_WANTS];
        private final int[] wantPay = new int[MOST_WANTS];

        Told() {
        }

        void clear() {
            places = 0;
            ground = 0;
            sour = 0;
            roads = 0;
            hands = 0;
            jugs = 0;
            heats = 0;
            wants = 0;
            Arrays.fill(road, 0);
        }

        void become(Told other) {
            places = other.places;
            ground = other.ground;
            sour = other.sour;
            roads = other.roads;
            hands = other.hands;
            jugs = other.jugs;
            heats = other.heats;
            wants = other.wants;
            System.arraycopy(other.road, 0, road, 0, road.length);
            System.arraycopy(other.way, 0, way, 0, way.length);
            System.arraycopy(other.speed, 0, speed, 0, MOST_HANDS);
            System.arraycopy(other.tires, 0, tires, 0, MOST_HANDS);
            System.arraycopy(other.heatFirst, 0, heatFirst, 0, MOST_HEATS);
            System.arraycopy(other.heatLast, 0, heatLast, 0, MOST_HEATS);
            System.arraycopy(other.heatMore, 0, heatMore, 0, MOST_HEATS);
            System.arraycopy(other.wantPlace, 0, wantPlace, 0, MOST_WANTS);
            System.arraycopy(other.wantLeast, 0, wantLeast, 0, MOST_WANTS);
            System.arraycopy(other.wantMost, 0, wantMost, 0, MOST_WANTS);
            System.arraycopy(other.wantPay, 0, wantPay, 0, MOST_WANTS);
        }

        int howMany(int what) {
            switch (what) {
                case 0:
                    return places;
                case 1:
                    return ground;
                case 2:
                    return sour;
                case 3:
                    return roads;
                case 4:
                    return hands;
                case 5:
                    return jugs;
                default:
                    return wants;
            }
        }

        private static int pair(int from, int to) {
            return from * MOST_PLACES + to;
        }

        /** HOURS of the ROAD between two PLACES, 0 if there is none. */
        int roadHours(int from, int to) {
            return road[pair(from, to)];
        }

        void addRoad(int from, int to, int hours) {
            road[pair(from, to)] = hours;
            road[pair(to, from)] = hours;
            roads++;
        }

        /** All ways at once, as they are asked for often and told once. */
        void measureWays() {
            for (int from = 0; from < places; from++) {
                for (int to = 0; to < places; to++) {
                    int hours = roadHours(from, to);
                    way[pair(from, to)] = from == to ? 0 : hours > 0 ? hours : NO_WAY;
                }
            }
            for (int over = 0; over < places; over++) {
                for (int from = 0; from < places; from++) {
                    for (int to = 0; to < places; to++) {
                        int round = way[pair(from, over)] + way[pair(over, to)];
                        way[pair(from, to)] = Math.min(way[pair(from, to)], round);
                    }
                }
            }
        }

        boolean hasWay(int from, int to) {
            return way[pair(from, to)] < NO_WAY;
        }

        int wayHours(int from, int to) {
            return way[pair(from, to)];
        }

        int nextPlace(int from, int to) {
            for (int place = 0; place < places; place++) {
                int hours = roadHours(from, place);
                if (hours > 0 && hours + wayHours(place, to) == wayHours(from, to)) {
                    return place;
                }
            }
            return NONE;
        }

        int heatIn(int hour) {
            int heat = 0;
            for (int i = 0; i < heats; i++) {
                if (heatFirst[i] <= hour && hour <= heatLast[i]) {
                    heat += heatMore[i];
                }
            }
            return heat;
        }

        boolean suits(int want, int turned) {
            return wantLeast[want] <= turned && turned <= wantMost[want];
        }
    }

    /** What ACTS change. A JUG with neither a PLACE nor a holder is gone. */
    static final class State {
        private int hour;
        private int pay;
        private final int[] handPlace = new int[MOST_HANDS];
        private final int[] handToGo = new int[MOST_HANDS];
        private final int[] handTired = new int[MOST_HANDS];
        private final int[] jugPlace = new int[MOST_JUGS];
        private final int[] jugHolder = new int[MOST_JUGS];
        private final int[] jugTurned = new int[MOST_JUGS];
        private final int[] wantMet = new int[MOST_WANTS];

        State() {
            Arrays.fill(jugPlace, NONE);
            Arrays.fill(jugHolder, NONE);
            Arrays.fill(wantMet, NONE);
        }

        void clear() {
            hour = 0;
            pay = 0;
            Arrays.fill(handPlace, 0);
            Arrays.fill(handToGo, 0);
            Arrays.fill(handTired, 0);
            Arrays.fill(jugPlace, NONE);
            Arrays.fill(jugHolder, NONE);
            Arrays.fill(jugTurned, 0);
            Arrays.fill(wantMet, NONE);
        }

        void become(State other) {
            hour = other.hour;
            pay = other.pay;
            System.arraycopy(other.handPlace, 0, handPlace, 0, MOST_HANDS);
            System.arraycopy(other.handToGo, 0, handToGo, 0, MOST_HANDS);
            System.arraycopy(other.handTired, 0, handTired, 0, MOST_HANDS);
            System.arraycopy(other.jugPlace, 0, jugPlace, 0, MOST_JUGS);
            System.arraycopy(other.jugHolder, 0, jugHolder, 0, MOST_JUGS);
            System.arraycopy(other.jugTurned, 0, jugTurned, 0, MOST_JUGS);
            System.arraycopy(other.wantMet, 0, wantMet, 0, MOST_WANTS);
        }

        boolean stands(int jug) {
            return jugPlace[jug] != NONE;
        }

        boolean isGone(int jug) {
            return jugPlace[jug] == NONE && jugHolder[jug] == NONE;
        }

        boolean isAtPlace(int hand) {
            return handToGo[hand] == 0;
        }

        int heldBits(int hand) {
            int bits = 0;
            for (int jug = 0; jug < MOST_JUGS; jug++) {
                if (jugHolder[jug] == hand) {
                    bits |= 1 << jug;
                }
            }
            return bits;
        }

        int howManyHeld(int hand) {
            return Integer.bitCount(heldBits(hand));
        }

        private boolean canHoldMore(int hand) {
            return isAtPlace(hand) && howManyHeld(hand) < MOST_HELD;
        }

        boolean canTake(int hand, int jug) {
            return stands(jug) && jugPlace[jug] == handPlace[hand] && canHoldMore(hand);
        }

        boolean canGive(int holder, int hand) {
            return isAtPlace(holder) && handPlace[holder] == handPlace[hand] && canHoldMore(hand);
        }

        void giveTo(int hand, int jug) {
            jugHolder[jug] = hand;
            jugPlace[jug] = NONE;
        }

        /** HOURS of the ROAD by which a HAND can go to a PLACE, or 0. */
        int roadFor(Told told, int hand, int place) {
            return isAtPlace(hand) ? told.roadHours(handPlace[hand], place) : 0;
        }

        void setOut(int hand, int place, int hours) {
            handPlace[hand] = place;
            handToGo[hand] = hours;
        }

        void tire(int hand, int tires) {
            if (heldBits(hand) != 0) {
                handTired[hand] = Math.min(MOST_TIRED, handTired[hand] + tires);
            } else {
                handTired[hand] = Math.max(0, handTired[hand] - 1);
            }
        }

        int turnedTogether() {
            int sum = 0;
            for (int jug = 0; jug < MOST_JUGS; jug++) {
                sum += isGone(jug) ? 0 : jugTurned[jug];
            }
            return sum;
        }

        int howManySour(int sour) {
            int sum = 0;
            for (int jug = 0; jug < MOST_JUGS; jug++) {
                sum += !isGone(jug) && jugTurned[jug] >= sour ? 1 : 0;
            }
            return sum;
        }
    }

    /** All that an IMAGE keeps. */
    static final class Scene {
        private final Told told = new Told();
        private final State state = new State();
        private int force = NONE;
        private int x;
        private int tests;
        private final int[] testFrom = new int[MOST_TESTS];
        private final int[] testHours = new int[MOST_TESTS];
        private final int[] testAt = new int[MOST_TESTS];
        private final int[] testTo = new int[MOST_TESTS];
        private boolean isMade;

        Scene() {
        }

        void become(Scene other) {
            told.become(other.told);
            state.become(other.state);
            force = other.force;
            x = other.x;
            tests = other.tests;
            System.arraycopy(other.testFrom, 0, testFrom, 0, MOST_TESTS);
            System.arraycopy(other.testHours, 0, testHours, 0, MOST_TESTS);
            System.arraycopy(other.testAt, 0, testAt, 0, MOST_TESTS);
            System.arraycopy(other.testTo, 0, testTo, 0, MOST_TESTS);
        }

        void addTest(int from, int hours, int at, int to) {
            if (tests < MOST_TESTS) {
                testFrom[tests] = from;
                testHours[tests] = hours;
                testAt[tests] = at;
                testTo[tests] = to;
                tests++;
            }
        }
    }

    /** Reads a DAIRY off the TAPE, beside the one there is, which a FAULT lets stay. */
    static final class DairyReader {
        private static final int MOST_CLAUSES = 40;
        private static final int KINDS = 6;
        private static final int DAIRY = 0;
        private static final int ROAD = 1;
        private static final int HAND = 2;
        private static final int JUG = 3;
        private static final int HEAT = 4;

        private final Tape tape;
        private final Told told = new Told();
        private final State state = new State();

        DairyReader(Tape tape) {
            this.tape = tape;
        }

        boolean read() {
            told.clear();
            state.clear();
            tape.rewind();
            for (int clauses = 0; clauses <= MOST_CLAUSES; clauses++) {
                if (!readClause(clauses)) {
                    return false;
                }
                if (tape.isAtEnd()) {
                    told.measureWays();
                    return true;
                }
                if (!tape.takesSign(';')) {
                    return tape.refuse(0);
                }
            }
            return false;
        }

        private static String nameOf(int kind) {
            switch (kind) {
                case DAIRY:
                    return "dairy";
                case ROAD:
                    return "road";
                case HAND:
                    return "hand";
                case JUG:
                    return "jug";
                case HEAT:
                    return "heat";
                default:
                    return "want";
            }
        }

        private int takeKind() {
            for (int kind = 0; kind < KINDS; kind++) {
                if (tape.takesWord(nameOf(kind))) {
                    return kind;
                }
            }
            return NONE;
        }

        private boolean hasRoomFor(int kind) {
            switch (kind) {
                case DAIRY:
                    return true;
                case ROAD:
                    return told.roads < MOST_ROADS;
                case HAND:
                    return told.hands < MOST_HANDS;
                case JUG:
                    return told.jugs < MOST_JUGS;
                case HEAT:
                    return told.heats < MOST_HEATS;
                default:
                    return told.wants < MOST_WANTS;
            }
        }

        private boolean readClause(int clauses) {
            int kind = takeKind();
            if (kind == NONE) {
                return tape.refuse(0);
            }
            boolean isInOrder = (kind == DAIRY) == (clauses == 0);
            if (clauses >= MOST_CLAUSES || !isInOrder || !hasRoomFor(kind)) {
                return tape.refuse(4);
            }
            switch (kind) {
                case DAIRY:
                    return readDairy();
                case ROAD:
                    return readRoad();
                case HAND:
                    return readHand();
                case JUG:
                    return readJug();
                case HEAT:
                    return readHeat();
                default:
                    return readWant();
            }
        }

        private boolean readDairy() {
            int places = tape.takeNumber(2, MOST_PLACES);
            int ground = places == NONE ? NONE : tape.takeNumber(0, 9);
            int sour = ground == NONE ? NONE : tape.takeNumber(10, 99);
            if (sour == NONE) {
                return false;
            }
            told.places = places;
            told.ground = ground;
            told.sour = sour;
            return true;
        }

        private int takePlace() {
            return tape.takeNumber(0, told.places - 1);
        }

        private boolean readRoad() {
            int from = takePlace();
            int to = from == NONE ? NONE : takePlace();
            if (to == NONE) {
                return false;
            }
            if (to == from || told.roadHours(from, to) > 0) {
                return tape.refuse(1);
            }
            int hours = tape.takeNumber(1, 5);
            if (hours == NONE) {
                return false;
            }
            told.addRoad(from, to, hours);
            return true;
        }

        private boolean readHand() {
            int place = takePlace();
            int speed = place == NONE ? NONE : tape.takeNumber(0, 20);
            int tires = speed == NONE ? NONE : tape.takeNumber(0, 5);
            if (tires == NONE) {
                return false;
            }
            state.handPlace[told.hands] = place;
            told.speed[told.hands] = speed;
            told.tires[told.hands] = tires;
            told.hands++;
            return true;
        }

        private boolean readJug() {
            int place = takePlace();
            int turned = place == NONE ? NONE : tape.takeNumber(0, 99);
            if (turned == NONE) {
                return false;
            }
            state.jugPlace[told.jugs] = place;
            state.jugTurned[told.jugs] = turned;
            told.jugs++;
            return true;
        }

        private boolean readHeat() {
            int first = tape.takeNumber(0, 99);
            int last = first == NONE ? NONE : tape.takeNumber(first, 99);
            int more = last == NONE ? NONE : tape.takeNumber(1, 5);
            if (more == NONE) {
                return false;
            }
            told.heatFirst[told.heats] = first;
            told.heatLast[told.heats] = last;
            told.heatMore[told.heats] = more;
            told.heats++;
            return true;
        }

        private boolean readWant() {
            int place = takePlace();
            int least = place == NONE ? NONE : tape.takeNumber(0, 99);
            int most = least == NONE ? NONE : tape.takeNumber(least, 99);
            int pay = most == NONE ? NONE : tape.takeNumber(1, 50);
            if (pay == NONE) {
                return false;
            }
            told.wantPlace[told.wants] = place;
            told.wantLeast[told.wants] = least;
            told.wantMost[told.wants] = most;
            told.wantPay[told.wants] = pay;
            told.wants++;
            return true;
        }
    }

    /**
     * Reads a RULE off the TAPE into a code for a stack, each sign behind what it joins, so
     * that no tree is walked hour by hour. Signs wait on a pile for those that bind closer.
     */
    static final class RuleReader {
        private static final int MOST_CLAUSES = 12;
        private static final int MOST_PARTS = 60;
        private static final int MOST_DEEP = 10;
        private static final int MOST_NUMBER = 99999;

        private static final int IN_TURN = 0;
        private static final int IN_FIRST_SUM = 1;
        private static final int IN_SECOND_SUM = 2;
        private static final int BEHIND_FACT = 3;

        private final Tape tape;
        private final int[] code = new int[TAPE_BYTES];
        private int length;
        private int parts;
        private final int[] pile = new int[TAPE_BYTES];
        private int piled;
        private int deep;
        private int opened;
        private int where;

        RuleReader(Tape tape) {
            this.tape = tape;
        }

        int[] copyOfCode() {
            return Arrays.copyOf(code, length);
        }

        boolean read() {
            length = 0;
            parts = 0;
            tape.rewind();
            for (int clauses = 0; clauses <= MOST_CLAUSES; clauses++) {
                if (!readClause(clauses)) {
                    return false;
                }
                if (tape.isAtEnd()) {
                    return true;
                }
                if (!tape.takesSign(';')) {
                    return tape.refuse(0);
                }
            }
            return false;
        }

        private boolean readClause(int clauses) {
            if (!tape.takesWord("turn")) {
                return tape.refuse(0);
            }
            if (clauses >= MOST_CLAUSES) {
                return tape.refuse(4);
            }
            piled = 0;
            deep = 0;
            opened = 0;
            where = IN_TURN;
            for (int values = 0; values < TAPE_BYTES; values++) {
                if (!readValue()) {
                    return false;
                }
                closeBrackets();
                if (endsHere()) {
                    unpile(0);
                    write(where == IN_TURN ? Turning.TURN : Turning.TURN_IF);
                    return true;
                }
                if (!readJoint()) {
                    return false;
                }
            }
            return false;
        }

        private boolean readValue() {
            int value = tape.isAtDigit() ? tape.takeNumber(0, MOST_NUMBER) : takeValueWord();
            if (value == NONE) {
                return tape.refuse(0);
            }
            if (parts >= MOST_PARTS) {
                return tape.refuse(3);
            }
            parts++;
            write(value);
            return true;
        }

        private int takeValueWord() {
            for (int word = 0; word < Turning.WORDS; word++) {
                if (tape.takesWord(Turning.nameOf(word))) {
                    return Turning.FIRST_WORD - word;
                }
            }
            return NONE;
        }

        private boolean isFactWhole() {
            return where == IN_SECOND_SUM || where == BEHIND_FACT;
        }

        private void closeBrackets() {
            while (opened > 0 && isFactWhole() && tape.takesSign(']')) {
                unpile(0);
                dropTop();
                opened--;
                where = BEHIND_FACT;
            }
        }

        private boolean endsHere() {
            boolean mayEnd = where == IN_TURN || (opened == 0 && isFactWhole());
            return mayEnd && (tape.isAtEnd() || tape.look() == ';');
        }

        /** What stands behind a VALUE and goes on to the next one. */
        private boolean readJoint() {
            int sign = where == BEHIND_FACT ? 0 : takeArithmetic();
            if (sign != 0) {
                pileUp(sign);
                return true;
            }
            if (where == IN_TURN) {
                return readIf();
            }
            if (where == IN_FIRST_SUM) {
                return readComparison();
            }
            sign = tape.takesWord("and") ? Turning.AND : tape.takesWord("or") ? Turning.OR : 0;
            if (sign == 0) {
                return tape.refuse(0);
            }
            pileUp(sign);
            return beginFact();
        }

        private int takeArithmetic() {
            if (tape.takesSign('*')) {
                return Turning.TIMES;
            }
            if (tape.takesSign('/')) {
                return Turning.OVER;
            }
            if (tape.takesSign('%')) {
                return Turning.REST_BY;
            }
            if (tape.takesSign('+')) {
                return Turning.PLUS;
            }
            return tape.takesSign('-') ? Turning.MINUS : 0;
        }

        private boolean readIf() {
            if (!tape.takesWord("if")) {
                return tape.refuse(0);
            }
            unpile(0);
            return beginFact();
        }

        private boolean readComparison() {
            int sign = takeComparison();
            if (sign == 0) {
                return tape.refuse(0);
            }
            if (parts >= MOST_PARTS) {
                return tape.refuse(3);
            }
            parts++;
            pileUp(sign);
            where = IN_SECOND_SUM;
            return true;
        }

        private int takeComparison() {
            if (tape.takesSign('=')) {
                return Turning.EQUAL;
            }
            if (tape.takesSign('<')) {
                return tape.continuesWith('=') ? Turning.AT_MOST : Turning.BELOW;
            }
            if (tape.takesSign('>')) {
                return tape.continuesWith('=') ? Turning.AT_LEAST : Turning.ABOVE;
            }
            return 0;
        }

        private boolean beginFact() {
            where = IN_FIRST_SUM;
            for (int opening = 0; opening <= MOST_DEEP; opening++) {
                boolean isOpen = tape.takesSign('[');
                if (!isOpen && !tape.takesWord("not")) {
                    return true;
                }
                if (deep >= MOST_DEEP) {
                    return tape.refuse(2);
                }
                deep++;
                opened += isOpen ? 1 : 0;
                push(isOpen ? Turning.OPEN : Turning.NOT);
            }
            return false;
        }

        private void pileUp(int sign) {
            unpile(bindingOf(sign));
            push(sign);
        }

        /** Writes what binds at least so close, as far as the bracket that is open. */
        private void unpile(int binding) {
            for (int top = piled - 1; top >= 0 && pile[top] != Turning.OPEN; top--) {
                if (bindingOf(pile[top]) < binding) {
                    return;
                }
                write(pile[top]);
                dropTop();
            }
        }

        private void push(int sign) {
            if (piled < TAPE_BYTES) {
                pile[piled] = sign;
                piled++;
            }
        }

        private void dropTop() {
            if (piled > 0) {
                piled--;
                if (pile[piled] == Turning.OPEN || pile[piled] == Turning.NOT) {
                    deep--;
                }
            }
        }

        private void write(int sign) {
            if (length < TAPE_BYTES) {
                code[length] = sign;
                length++;
            }
        }

        private static int bindingOf(int sign) {
            switch (sign) {
                case Turning.TIMES:
                case Turning.OVER:
                case Turning.REST_BY:
                    return 6;
                case Turning.PLUS:
                case Turning.MINUS:
                    return 5;
                case Turning.NOT:
                    return 3;
                case Turning.AND:
                    return 2;
                case Turning.OR:
                    return 1;
                default:
                    return 4;
            }
        }
    }

    /** How far milk turns in an HOUR in a HAND, by the RULE IN FORCE or without one. */
    static final class Turning {
        static final int WORDS = 10;
        /** WORDS go on downwards from here; what is not below 0 is a NUMBER. */
        static final int FIRST_WORD = -2;
        static final int LAST_WORD = FIRST_WORD - WORDS + 1;
        static final int TIMES = -12;
        static final int OVER = -13;
        static final int REST_BY = -14;
        static final int PLUS = -15;
        static final int MINUS = -16;
        static final int BELOW = -17;
        static final int AT_MOST = -18;
        static final int EQUAL = -19;
        static final int AT_LEAST = -20;
        static final int ABOVE = -21;
        static final int NOT = -22;
        static final int AND = -23;
        static final int OR = -24;
        static final int TURN = -25;
        static final int TURN_IF = -26;
        static final int OPEN = -27;

        private static final int MOST_STACKED = 64;
        private static final int MOST_BY_RULE = 50;

        private final Told told;
        private int[] code = NO_RULE;
        private boolean iced;
        private final long[] stack = new long[MOST_STACKED];
        private int hand;
        private int jug;
        private int turned;
        private int tired;
        private int hour;
        private int heat;
        private int road;
        private int held;

        Turning(Told told) {
            this.told = told;
        }

        static String nameOf(int word) {
            switch (word) {
                case 0:
                    return "hand";
                case 1:
                    return "speed";
                case 2:
                    return "tired";
                case 3:
                    return "jug";
                case 4:
                    return "turned";
                case 5:
                    return "heat";
                case 6:
                    return "hour";
                case 7:
                    return "road";
                case 8:
                    return "held";
                default:
                    return "sour";
            }
        }

        private long valueOf(int word) {
            switch (FIRST_WORD - word) {
                case 0:
                    return hand;
                case 1:
                    return told.speed[hand];
                case 2:
                    return tired;
                case 3:
                    return jug;
                case 4:
                    return turned;
                case 5:
                    return heat;
                case 6:
                    return hour;
                case 7:
                    return road;
                case 8:
                    return held;
                default:
                    return turned >= told.sour ? 1 : 0;
            }
        }

        int heatIn(int anHour) {
            return iced ? 0 : told.heatIn(anHour);
        }

        /** A HAND that is not TIRED holds a JUG alone, at a PLACE. */
        void suppose(int aHand, int aJug, int turnedBefore, int from) {
            hand = aHand;
            jug = aJug;
            turned = turnedBefore;
            tired = 0;
            hour = from;
            road = 0;
            held = 1;
        }

        /** What a HAND really does with a JUG in an HOUR of a STATE. */
        void see(State state, int aHand, int aJug) {
            hand = aHand;
            jug = aJug;
            turned = state.jugTurned[aJug];
            tired = state.handTired[aHand];
            hour = state.hour;
            road = state.isAtPlace(aHand) ? 0 : 1;
            held = state.howManyHeld(aHand);
        }

        void holdFor(int hours) {
            for (int i = 0; i < hours; i++) {
                turned = Math.min(MOST_TURNED, turned + turns());
                tired = Math.min(MOST_TIRED, tired + told.tires[hand]);
                hour = Math.min(LAST_HOUR, hour + 1);
            }
        }

        void restAnHour() {
            tired = Math.max(0, tired - 1);
            hour = Math.min(LAST_HOUR, hour + 1);
        }

        int turns() {
            heat = heatIn(hour);
            if (code.length == 0) {
                return told.speed[hand] + tired / 4 + heat;
            }
            return (int) Math.max(0L, Math.min((long) MOST_BY_RULE, sumByRule()));
        }

        private long sumByRule() {
            int top = -1;
            for (int i = 0; i < code.length; i++) {
                int sign = code[i];
                if (sign >= LAST_WORD) {
                    if (top + 1 >= MOST_STACKED) {
                        return 0;
                    }
                    top++;
                    stack[top] = sign >= 0 ? sign : valueOf(sign);
                } else if (top < 0) {
                    return 0;
                } else if (sign == TURN) {
                    return stack[top];
                } else if (sign == NOT) {
                    stack[top] = 1 - stack[top];
                } else if (top < 1) {
                    return 0;
                } else if (sign == TURN_IF) {
                    if (stack[top] != 0) {
                        return stack[top - 1];
                    }
                    top -= 2;
                } else {
                    top--;
                    stack[top] = joined(sign, stack[top], stack[top + 1]);
                }
            }
            return 0;
        }

        private static long joined(int sign, long a, long b) {
            switch (sign) {
                case TIMES:
                    return a * b;
                case OVER:
                    return b == 0 ? 0 : a / b;
                case REST_BY:
                    return b == 0 ? 0 : a % b;
                case PLUS:
                    return a + b;
                case MINUS:
                    return a - b;
                case BELOW:
                    return a < b ? 1 : 0;
                case AT_MOST:
                    return a <= b ? 1 : 0;
                case EQUAL:
                    return a == b ? 1 : 0;
                case AT_LEAST:
                    return a >= b ? 1 : 0;
                case ABOVE:
                    return a > b ? 1 : 0;
                case AND:
                    return a & b;
                default:
                    return a | b;
            }
        }
    }

    /** Lets HOURS pass over a STATE, the real one or a supposed one. */
    static final class Hours {
        private final Turning turning;
        private final Told told;
        private int x;

        Hours(Turning turning) {
            this.turning = turning;
            this.told = turning.told;
        }

        /** An HOUR: how many JUGS become SOUR in it. */
        int pass(State state) {
            int soured = 0;
            for (int jug = 0; jug < told.jugs; jug++) {
                int was = state.jugTurned[jug];
                state.jugTurned[jug] = Math.min(MOST_TURNED, was + turnsIn(state, jug));
                if (was < told.sour && state.jugTurned[jug] >= told.sour) {
                    soured++;
                }
            }
            for (int hand = 0; hand < told.hands; hand++) {
                state.tire(hand, told.tires[hand]);
                state.handToGo[hand] = Math.max(0, state.handToGo[hand] - 1);
            }
            state.hour = Math.min(LAST_HOUR, state.hour + 1);
            return soured;
        }

        private int turnsIn(State state, int jug) {
            if (state.stands(jug)) {
                return told.ground + turning.heatIn(state.hour);
            }
            if (state.isGone(jug)) {
                return 0;
            }
            turning.see(state, state.jugHolder[jug], jug);
            return turning.turns();
        }

        void passSeveral(State state, int n) {
            for (int i = 0; i < n; i++) {
                pass(state);
            }
        }

        void passByDraws(State state, int n) {
            for (int i = 0; i < n; i++) {
                drawRoads(state);
                drawHolders(state);
                pass(state);
            }
        }

        private int draw() {
            x = (int) ((x * 1103515245L + 12345L) & MOST_INT);
            return x / 65536;
        }

        private void drawRoads(State state) {
            for (int hand = 0; hand < told.hands; hand++) {
                if (state.isAtPlace(hand) && told.places > 0) {
                    int place = draw() % told.places;
                    int road = state.roadFor(told, hand, place);
                    if (road > 0) {
                        state.setOut(hand, place, road);
                    }
                }
            }
        }

        private void drawHolders(State state) {
            for (int jug = 0; jug < told.jugs; jug++) {
                if (state.stands(jug) && told.hands > 0) {
                    int hand = draw() % told.hands;
                    if (state.canTake(hand, jug)) {
                        state.giveTo(hand, jug);
                    }
                }
            }
        }
    }

    /**
     * RELAY. Rows that have TURNED a JUG as far by the same ROAD go on alike, so what comes
     * of each (ROAD, TURNED) is found once.
     */
    static final class Relay {
        private static final int MOST_LEGS = 5;
        private static final int WIDTH = MOST_TURNED + 1;
        private static final int UNKNOWN = -1;

        private final Turning turning;
        private final Told told;
        private final int[] legHours = new int[MOST_LEGS];
        private final int[] legBegin = new int[MOST_LEGS];
        private final int[] rowsFrom = new int[(MOST_LEGS + 1) * WIDTH];
        private final int[] leastFrom = new int[(MOST_LEGS + 1) * WIDTH];
        private int legs;
        private int jug;
        private int begin;
        private int least;
        private int most;

        Relay(Turning turning) {
            this.turning = turning;
            this.told = turning.told;
        }

        /** Lays the WAY out, ROAD by ROAD. */
        void setOut(int aJug, int from, int to, int hour) {
            jug = aJug;
            legs = 0;
            int place = from;
            int atHour = hour;
            while (legs < MOST_LEGS && place != to) {
                int next = told.nextPlace(place, to);
                if (next == NONE) {
                    return;
                }
                legHours[legs] = told.roadHours(place, next);
                legBegin[legs] = Math.min(LAST_HOUR, atHour);
                atHour += legHours[legs];
                place = next;
                legs++;
            }
        }

        void solve(int turned, int leastTold, int mostTold) {
            begin = turned;
            least = leastTold;
            most = mostTold;
            Arrays.fill(rowsFrom, 0, (legs + 1) * WIDTH, UNKNOWN);
            visit(0, turned);
        }

        private int carried(int leg, int hand, int turned) {
            turning.suppose(hand, jug, turned, legBegin[leg]);
            turning.road = 1;
            turning.holdFor(legHours[leg]);
            return turning.turned;
        }

        private void visit(int leg, int turned) {
            int at = leg * WIDTH + turned;
            if (leg > MOST_LEGS || rowsFrom[at] != UNKNOWN) {
                return;
            }
            if (leg >= legs) {
                rowsFrom[at] = least <= turned && turned <= most ? 1 : 0;
                leastFrom[at] = turned;
                return;
            }
            int rows = 0;
            int leastOfAll = MOST_TURNED;
            for (int hand = 0; hand < told.hands; hand++) {
                int then = carried(leg, hand, turned);
                visit(leg + 1, then);
                rows += rowsFrom[(leg + 1) * WIDTH + then];
                leastOfAll = Math.min(leastOfAll, leastFrom[(leg + 1) * WIDTH + then]);
            }
            rowsFrom[at] = rows;
            leastFrom[at] = leastOfAll;
        }

        int howMany() {
            return rowsFrom[begin];
        }

        int leastTurned() {
            return leastFrom[begin];
        }

        /** The HAND of a ROAD in the first row, or -2. */
        int handOfFirst(int leg) {
            if (leg >= legs || howMany() == 0) {
                return -2;
            }
            int turned = begin;
            for (int i = 0; i < leg; i++) {
                turned = carried(i, firstHand(i, turned), turned);
            }
            return firstHand(leg, turned);
        }

        private int firstHand(int leg, int turned) {
            for (int hand = 0; hand < told.hands; hand++) {
                if (rowsFrom[(leg + 1) * WIDTH + carried(leg, hand, turned)] > 0) {
                    return hand;
                }
            }
            return 0;
        }
    }

    /** MATCH and ROWS, each by a table of what its rest can come to. */
    static final class Tables {
        private static final int JUG_SETS = 1 << MOST_JUGS;
        private static final int MOST_ROW_HOURS = 12;
        private static final int ROW_WIDTH = 301;
        private static final long ROW_MODULUS = 1000000007L;

        private final Told told;
        private final int[] payFrom = new int[(MOST_WANTS + 1) * JUG_SETS];
        private final int[] rowsTo = new int[(MOST_ROW_HOURS + 1) * ROW_WIDTH];

        Tables(Told told) {
            this.told = told;
        }

        void matchWants(State state) {
            Arrays.fill(payFrom, 0);
            for (int want = told.wants - 1; want >= 0; want--) {
                for (int used = 0; used < JUG_SETS; used++) {
                    int best = payWith(state, want, used, NONE);
                    for (int jug = 0; jug < told.jugs; jug++) {
                        best = Math.max(best, payWith(state, want, used, jug));
                    }
                    payFrom[want * JUG_SETS + used] = best;
                }
            }
        }

        /** PAY from a WANT on, if it has a JUG or none; -1 if it can't have it. */
        private int payWith(State state, int want, int used, int jug) {
            int next = (want + 1) * JUG_SETS;
            if (jug == NONE) {
                return payFrom[next + used];
            }
            boolean isFree = (used >> jug & 1) == 0 && !state.isGone(jug);
            if (!isFree || state.wantMet[want] != NONE || !told.suits(want, state.jugTurned[jug])) {
                return -1;
            }
            return told.wantPay[want] + payFrom[next + (used | 1 << jug)];
        }

        int mostPay() {
            return payFrom[0];
        }

        int jugOfWant(State state, int asked) {
            int used = 0;
            int jug = NONE;
            for (int want = 0; want <= asked; want++) {
                jug = firstBest(state, want, used);
                used |= jug == NONE ? 0 : 1 << jug;
            }
            return jug;
        }

        private int firstBest(State state, int want, int used) {
            for (int jug = NONE; jug < told.jugs; jug++) {
                if (payWith(state, want, used, jug) == payFrom[want * JUG_SETS + used]) {
                    return jug;
                }
            }
            return NONE;
        }

        void countRows(int n, int turned) {
            Arrays.fill(rowsTo, 0, ROW_WIDTH, 0);
            rowsTo[0] = 1;
            for (int hours = 1; hours <= n; hours++) {
                for (int sum = 0; sum <= turned; sum++) {
                    long rows = 0;
                    for (int hand = 0; hand < told.hands; hand++) {
                        rows += rowsOf(hours - 1, sum - told.speed[hand]);
                    }
                    rowsTo[hours * ROW_WIDTH + sum] = (int) (rows % ROW_MODULUS);
                }
            }
        }

        /** Rows never come to the modulus itself: there are at most 5 to the 12th. */
        int rowsOf(int hours, int sum) {
            return sum < 0 ? 0 : rowsTo[hours * ROW_WIDTH + sum];
        }

        int handInFirstRow(int n, int turned, int asked) {
            int left = turned;
            for (int hour = 0; hour <= asked; hour++) {
                int hand = firstThatLeaves(n - hour - 1, left);
                if (hour == asked) {
                    return hand;
                }
                left -= told.speed[hand];
            }
            return 0;
        }

        private int firstThatLeaves(int hours, int left) {
            for (int hand = 0; hand < told.hands; hand++) {
                if (rowsOf(hours, left - told.speed[hand]) > 0) {
                    return hand;
                }
            }
            return 0;
        }

        int handsInRows(int n, int turned, int asked) {
            int bits = 0;
            for (int hand = 0; hand < told.hands; hand++) {
                for (int before = 0; before <= turned; before++) {
                    int left = turned - before - told.speed[hand];
                    if (rowsOf(asked, before) > 0 && rowsOf(n - asked - 1, left) > 0) {
                        bits |= 1 << hand;
                    }
                }
            }
            return bits;
        }
    }

    /** What would come of a JUG in the hands of one: REST, WHO and PROBE. */
    static final class Trials {
        private static final int MOST_HOURS = 20;

        private final Scene scene;
        private final Turning turning;
        private final int[] turnedAfter = new int[MOST_HANDS * MOST_HOURS];
        private int probeHours;
        private int probeAlike;

        Trials(Scene scene, Turning turning) {
            this.scene = scene;
            this.turning = turning;
        }

        /** How far a JUG turns that a HAND holds in those HOURS alone that are in the set. */
        int turnedByTurns(int hand, int n, int set) {
            turning.suppose(hand, 0, 0, scene.state.hour);
            turning.tired = scene.state.handTired[hand];
            for (int i = 0; i < n; i++) {
                turning.road = scene.state.handToGo[hand] > i ? 1 : 0;
                if ((set >> i & 1) == 1) {
                    turning.holdFor(1);
                } else {
                    turning.restAnHour();
                }
            }
            return turning.turned;
        }

        int handsByTests() {
            int bits = 0;
            for (int hand = 0; hand < scene.told.hands; hand++) {
                if (passesAll(hand)) {
                    bits |= 1 << hand;
                }
            }
            return bits;
        }

        private boolean passesAll(int hand) {
            for (int i = 0; i < scene.tests; i++) {
                turning.suppose(hand, 0, scene.testFrom[i], scene.testAt[i]);
                turning.holdFor(scene.testHours[i]);
                if (turning.turned != scene.testTo[i]) {
                    return false;
                }
            }
            return true;
        }

        void findBestProbe(int bits) {
            for (int hand = 0; hand < scene.told.hands; hand++) {
                turning.suppose(hand, 0, 0, scene.state.hour);
                for (int i = 0; i < MOST_HOURS; i++) {
                    turning.holdFor(1);
                    turnedAfter[hand * MOST_HOURS + i] = turning.turned;
                }
            }
            probeAlike = MOST_HANDS + 1;
            for (int i = 0; i < MOST_HOURS; i++) {
                int alike = mostAlike(bits, i);
                if (alike < probeAlike) {
                    probeAlike = alike;
                    probeHours = i + 1;
                }
            }
        }

        private int mostAlike(int bits, int i) {
            int most = 0;
            for (int hand = 0; hand < scene.told.hands; hand++) {
                int alike = 0;
                for (int other = 0; other < scene.told.hands; other++) {
                    int apart = turnedAfter[hand * MOST_HOURS + i] - turnedAfter[other * MOST_HOURS + i];
                    alike += apart == 0 && (bits >> other & 1) == 1 ? 1 : 0;
                }
                most = (bits >> hand & 1) == 1 ? Math.max(most, alike) : most;
            }
            return most;
        }
    }
}
