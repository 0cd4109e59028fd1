import java.util.ArrayList;
import java.util.HashMap;
import java.util.List;
import java.util.Map;

/**
 * The document once more, written as slowly and plainly as can be (trees, exceptions, all rows
 * tried one by one), so that the program can be held against it call by call.
 */
final class PlainMilk {
    static final class Fault extends RuntimeException {
        final int number;

        Fault(int place, int kind) {
            super("fault", null, false, false);
            number = 1 + 8 * place + kind;
        }
    }

    static final class Hand implements Cloneable {
        int place, toGo, tired, speed, tires;

        Hand copy() {
            Hand h = new Hand();
            h.place = place;
            h.toGo = toGo;
            h.tired = tired;
            h.speed = speed;
            h.tires = tires;
            return h;
        }
    }

    static final class Jug {
        int place, holder = -1, turned;
        boolean gone;

        Jug copy() {
            Jug j = new Jug();
            j.place = place;
            j.holder = holder;
            j.turned = turned;
            j.gone = gone;
            return j;
        }

        boolean stands() {
            return !gone && holder < 0;
        }
    }

    static final class Want {
        int place, least, most, pay, met = -1;

        Want copy() {
            Want w = new Want();
            w.place = place;
            w.least = least;
            w.most = most;
            w.pay = pay;
            w.met = met;
            return w;
        }
    }

    static final class World {
        int places, ground, sour, hour, pay;
        List<int[]> roads = new ArrayList<>();
        List<Hand> hands = new ArrayList<>();
        List<Jug> jugs = new ArrayList<>();
        List<int[]> heats = new ArrayList<>();
        List<Want> wants = new ArrayList<>();

        World copy() {
            World w = new World();
            w.places = places;
            w.ground = ground;
            w.sour = sour;
            w.hour = hour;
            w.pay = pay;
            w.roads = roads;
            w.heats = heats;
            for (Hand h : hands) {
                w.hands.add(h.copy());
            }
            for (Jug j : jugs) {
                w.jugs.add(j.copy());
            }
            for (Want x : wants) {
                w.wants.add(x.copy());
            }
            return w;
        }

        int road(int a, int b) {
            for (int[] r : roads) {
                if ((r[0] == a && r[1] == b) || (r[0] == b && r[1] == a)) {
                    return r[2];
                }
            }
            return 0;
        }

        int heat(int atHour) {
            int sum = 0;
            for (int[] h : heats) {
                if (atHour >= h[0] && atHour <= h[1]) {
                    sum += h[2];
                }
            }
            return sum;
        }

        List<Integer> held(int hand) {
            List<Integer> all = new ArrayList<>();
            for (int j = 0; j < jugs.size(); j++) {
                if (jugs.get(j).holder == hand) {
                    all.add(j);
                }
            }
            return all;
        }

        int bits(int hand) {
            int bits = 0;
            for (int j : held(hand)) {
                bits += 1 << j;
            }
            return bits;
        }
    }

    /** What a RULE sees. */
    static final class View {
        long hand, speed, tired, jug, turned, heat, hour, road, held, sour;
    }

    interface Sum {
        long of(View v);
    }

    interface Truth {
        boolean of(View v);
    }

    static final class Clause {
        Sum sum;
        Truth truth;
    }

    static final class Kept {
        World world;
        List<int[]> tests;
        int force, x;
    }

    byte[] tape = new byte[0];
    World world;
    List<List<Clause>> rules = new ArrayList<>();
    int force = -1;
    int x = 0;
    List<int[]> tests = new ArrayList<>();
    List<World> past = new ArrayList<>();
    Kept[] images = new Kept[4];
    boolean ice;

    int feed(int a, int b, int c, int d, int e) {
        if (tape.length + 20 > 400) {
            return -1;
        }
        byte[] more = java.util.Arrays.copyOf(tape, tape.length + 20);
        java.nio.ByteBuffer.wrap(more, tape.length, 20).putInt(a).putInt(b).putInt(c).putInt(d).putInt(e);
        tape = more;
        return tape.length;
    }

    int end(int n) {
        if (n < 0 || n > tape.length) {
            return -1;
        }
        tape = java.util.Arrays.copyOf(tape, n);
        return n;
    }

    int dairy() {
        try {
            World w = new Reader(tape).dairy();
            world = w;
            tests = new ArrayList<>();
            past.clear();
            return w.jugs.size();
        } catch (Fault f) {
            return -2 - f.number;
        } finally {
            tape = new byte[0];
        }
    }

    int rule() {
        if (rules.size() == 6) {
            return -1;
        }
        try {
            rules.add(new Reader(tape).rule());
            return rules.size() - 1;
        } catch (Fault f) {
            return -2 - f.number;
        } finally {
            tape = new byte[0];
        }
    }

    int force(int rule) {
        if (rule < -1 || rule >= rules.size()) {
            return -2;
        }
        int was = force;
        force = rule;
        return was;
    }

    boolean noPlace(int p) {
        return world == null || p < 0 || p >= world.places;
    }

    boolean noHand(int h) {
        return world == null || h < 0 || h >= world.hands.size();
    }

    boolean noJug(int j) {
        return world == null || j < 0 || j >= world.jugs.size();
    }

    boolean noWant(int w) {
        return world == null || w < 0 || w >= world.wants.size();
    }

    int hand(int hand, int what) {
        if (noHand(hand) || what < 0 || what > 5) {
            return -1;
        }
        Hand h = world.hands.get(hand);
        return new int[] {h.place, h.toGo, h.tired, world.bits(hand), h.speed, h.tires}[what];
    }

    int jug(int jug, int what) {
        if (noJug(jug) || what < 0 || what > 4) {
            return -2;
        }
        Jug j = world.jugs.get(jug);
        return new int[] {j.stands() ? j.place : -1, j.holder, j.turned, j.turned >= world.sour ? 1 : 0, j.gone ? 1 : 0}[what];
    }

    int meeting(World w, int want) {
        Want wa = w.wants.get(want);
        if (wa.met >= 0) {
            return -1;
        }
        for (int j = 0; j < w.jugs.size(); j++) {
            Jug jug = w.jugs.get(j);
            if (jug.stands() && jug.place == wa.place && jug.turned >= wa.least && jug.turned <= wa.most) {
                return j;
            }
        }
        return -1;
    }

    int want(int want, int what) {
        if (noWant(want) || what < 0 || what > 5) {
            return -2;
        }
        Want w = world.wants.get(want);
        return new int[] {w.place, w.least, w.most, w.pay, w.met, meeting(world, want) >= 0 ? 1 : 0}[what];
    }

    int turns(View v, World w) {
        if (force < 0) {
            return (int) (v.speed + Math.floorDiv(v.tired, 4) + v.heat);
        }
        for (Clause c : rules.get(force)) {
            if (c.truth == null || c.truth.of(v)) {
                long sum = c.sum.of(v);
                return sum < 0 ? 0 : sum > 50 ? 50 : (int) sum;
            }
        }
        return 0;
    }

    View view(World w, int hand, int jug) {
        View v = new View();
        v.hand = hand;
        v.speed = w.hands.get(hand).speed;
        v.jug = jug;
        return v;
    }

    int heatNow(World w, int hour) {
        return ice ? 0 : w.heat(hour);
    }

    int pass(World w) {
        int soured = 0;
        int heat = heatNow(w, w.hour);
        for (int j = 0; j < w.jugs.size(); j++) {
            Jug jug = w.jugs.get(j);
            if (jug.gone) {
                continue;
            }
            boolean wasSour = jug.turned >= w.sour;
            int more;
            if (jug.stands()) {
                more = w.ground + heat;
            } else {
                Hand h = w.hands.get(jug.holder);
                View v = view(w, jug.holder, j);
                v.tired = h.tired;
                v.turned = jug.turned;
                v.heat = heat;
                v.hour = w.hour;
                v.road = h.toGo > 0 ? 1 : 0;
                v.held = w.held(jug.holder).size();
                v.sour = wasSour ? 1 : 0;
                more = turns(v, w);
            }
            jug.turned = Math.min(999, jug.turned + more);
            if (!wasSour && jug.turned >= w.sour) {
                soured++;
            }
        }
        for (int h = 0; h < w.hands.size(); h++) {
            Hand hand = w.hands.get(h);
            hand.tired = w.held(h).isEmpty() ? Math.max(0, hand.tired - 1) : Math.min(99, hand.tired + hand.tires);
        }
        for (Hand hand : w.hands) {
            if (hand.toGo > 0) {
                hand.toGo--;
            }
        }
        w.hour = Math.min(999, w.hour + 1);
        return soured;
    }

    void act() {
        past.add(world.copy());
        if (past.size() > 20) {
            past.remove(0);
        }
    }

    int hour() {
        if (world == null || world.hour == 999) {
            return -1;
        }
        act();
        return pass(world);
    }

    static boolean canTake(World w, int hand, int jug) {
        Hand h = w.hands.get(hand);
        Jug j = w.jugs.get(jug);
        return h.toGo == 0 && j.stands() && j.place == h.place && w.held(hand).size() < 2;
    }

    int take(int hand, int jug) {
        if (noHand(hand) || noJug(jug) || !canTake(world, hand, jug)) {
            return -1;
        }
        act();
        world.jugs.get(jug).holder = hand;
        return world.bits(hand);
    }

    int put(int hand, int jug) {
        if (noHand(hand) || noJug(jug) || world.hands.get(hand).toGo > 0 || world.jugs.get(jug).holder != hand) {
            return -1;
        }
        act();
        world.jugs.get(jug).holder = -1;
        world.jugs.get(jug).place = world.hands.get(hand).place;
        return world.hands.get(hand).place;
    }

    int handOn(int jug, int hand) {
        if (noHand(hand) || noJug(jug)) {
            return -1;
        }
        int from = world.jugs.get(jug).holder;
        if (from < 0 || from == hand) {
            return -1;
        }
        Hand a = world.hands.get(from);
        Hand b = world.hands.get(hand);
        if (a.toGo > 0 || b.toGo > 0 || a.place != b.place || world.held(hand).size() >= 2) {
            return -1;
        }
        act();
        world.jugs.get(jug).holder = hand;
        return from;
    }

    int go(int hand, int place) {
        if (noHand(hand) || noPlace(place) || world.hands.get(hand).toGo > 0) {
            return -1;
        }
        int road = world.road(world.hands.get(hand).place, place);
        if (road == 0) {
            return -1;
        }
        act();
        world.hands.get(hand).place = place;
        world.hands.get(hand).toGo = road;
        return road;
    }

    int meet(int want) {
        if (noWant(want)) {
            return -1;
        }
        int jug = meeting(world, want);
        if (jug < 0) {
            return -1;
        }
        act();
        world.wants.get(want).met = world.hour;
        world.pay += world.wants.get(want).pay;
        world.jugs.get(jug).gone = true;
        return jug;
    }

    int undo() {
        if (past.isEmpty()) {
            return -1;
        }
        world = past.remove(past.size() - 1);
        return past.size();
    }

    int ahead(int number, int n, int what) {
        if (what != 0 && what != 1 || n < 0 || n > 100 || (what == 0 ? noJug(number) : noHand(number))) {
            return -2;
        }
        World w = world.copy();
        for (int i = 0; i < n; i++) {
            pass(w);
        }
        if (what == 1) {
            return w.hands.get(number).tired;
        }
        return w.jugs.get(number).gone ? -1 : w.jugs.get(number).turned;
    }

    /** The fewest HOURS, by trying every way that visits no PLACE twice; -1: there is none. */
    int fewest(int from, int to, int visited) {
        if (from == to) {
            return 0;
        }
        int best = -1;
        for (int p = 0; p < world.places; p++) {
            int r = world.road(from, p);
            if (r > 0 && (visited >> p & 1) == 0) {
                int rest = fewest(p, to, visited | 1 << p);
                if (rest >= 0 && (best < 0 || r + rest < best)) {
                    best = r + rest;
                }
            }
        }
        return best;
    }

    int hoursTo(int from, int to) {
        return fewest(from, to, 1 << from);
    }

    List<Integer> placesTo(int from, int to) {
        List<Integer> places = new ArrayList<>();
        places.add(from);
        int at = from;
        while (at != to) {
            for (int p = 0; p < world.places; p++) {
                int r = world.road(at, p);
                if (r > 0 && hoursTo(p, to) >= 0 && r + hoursTo(p, to) == hoursTo(at, to)) {
                    at = p;
                    break;
                }
            }
            places.add(at);
        }
        return places;
    }

    int way(int from, int to, int what) {
        if (noPlace(from) || noPlace(to) || what < 0 || what > 1) {
            return -3;
        }
        int hours = hoursTo(from, to);
        if (hours < 0) {
            return -2;
        }
        if (what == 0) {
            return hours;
        }
        return from == to ? -1 : placesTo(from, to).get(1);
    }

    /** TURNED behind some HOURS in a HAND that was not TIRED. */
    int carry(int hand, int jug, int turned, int hour, int hours, int road) {
        int tired = 0;
        for (int i = 0; i < hours; i++) {
            View v = view(world, hand, jug);
            v.tired = tired;
            v.turned = turned;
            v.hour = Math.min(999, hour + i);
            v.heat = heatNow(world, (int) v.hour);
            v.road = road;
            v.held = 1;
            v.sour = turned >= world.sour ? 1 : 0;
            turned = Math.min(999, turned + turns(v, world));
            tired = Math.min(99, tired + world.hands.get(hand).tires);
        }
        return turned;
    }

    int brings(int hand, int jug, int place) {
        if (noHand(hand) || noJug(jug) || noPlace(place) || !world.jugs.get(jug).stands()) {
            return -1;
        }
        Jug j = world.jugs.get(jug);
        int hours = hoursTo(j.place, place);
        return hours < 0 ? -2 : carry(hand, jug, j.turned, world.hour, hours, 1);
    }

    int relay(int jug, int place, int least, int most, int what) {
        if (noJug(jug) || noPlace(place) || !world.jugs.get(jug).stands() || what < 0 || what > 6) {
            return -3;
        }
        if (least < 0 || most > 999 || most < least) {
            return -3;
        }
        Jug j = world.jugs.get(jug);
        if (hoursTo(j.place, place) < 0 || j.place != place && world.hands.isEmpty()) {
            return -2;
        }
        List<Integer> places = placesTo(j.place, place);
        int roads = places.size() - 1;
        int all = 1;
        for (int i = 0; i < roads; i++) {
            all *= world.hands.size();
        }
        int count = 0;
        int[] first = null;
        int leastTurned = 1000;
        for (int row = 0; row < all; row++) {
            int[] hands = new int[roads];
            int rest = row;
            for (int i = roads - 1; i >= 0; i--) {
                hands[i] = rest % world.hands.size();
                rest /= world.hands.size();
            }
            int turned = j.turned;
            int hour = world.hour;
            for (int i = 0; i < roads; i++) {
                int hours = world.road(places.get(i), places.get(i + 1));
                turned = carry(hands[i], jug, turned, hour, hours, 1);
                hour += hours;
            }
            leastTurned = Math.min(leastTurned, turned);
            if (turned >= least && turned <= most) {
                count++;
                first = first == null ? hands : first;
            }
        }
        if (what == 0) {
            return count;
        }
        if (what == 1) {
            return leastTurned;
        }
        return first == null || what - 2 >= roads ? -2 : first[what - 2];
    }

    int bestPay;
    int[] bestMatch;

    void matches(int want, int[] chosen, int pay) {
        if (want == world.wants.size()) {
            if (pay > bestPay) {
                bestPay = pay;
                bestMatch = chosen.clone();
            }
            return;
        }
        chosen[want] = -1;
        matches(want + 1, chosen, pay);
        Want w = world.wants.get(want);
        for (int j = 0; j < world.jugs.size() && w.met < 0; j++) {
            boolean twice = false;
            for (int i = 0; i < want; i++) {
                twice |= chosen[i] == j;
            }
            Jug jug = world.jugs.get(j);
            if (!twice && !jug.gone && jug.turned >= w.least && jug.turned <= w.most) {
                chosen[want] = j;
                matches(want + 1, chosen, pay + w.pay);
            }
        }
        chosen[want] = -1;
    }

    int match(int what) {
        if (world == null || what < 0 || what > 6) {
            return -3;
        }
        bestPay = -1;
        matches(0, new int[world.wants.size()], 0);
        if (what == 0) {
            return bestPay;
        }
        return what > world.wants.size() ? -2 : bestMatch[what - 1];
    }

    int rest(int hand, int n, int k, int what) {
        if (noHand(hand) || n < 1 || n > 10 || k < 0 || k > n || what < 0 || what > 1) {
            return -1;
        }
        Hand h = world.hands.get(hand);
        int best = -1;
        int bestSet = -1;
        for (int set = (1 << n) - 1; set >= 0; set--) {
            int tired = h.tired;
            int turned = 0;
            int held = 0;
            for (int i = 0; i < n; i++) {
                if ((set & 1 << i) == 0) {
                    tired = Math.max(0, tired - 1);
                    continue;
                }
                held++;
                View v = view(world, hand, 0);
                v.tired = tired;
                v.turned = turned;
                v.hour = Math.min(999, world.hour + i);
                v.heat = heatNow(world, (int) v.hour);
                v.road = h.toGo > i ? 1 : 0;
                v.held = 1;
                v.sour = turned >= world.sour ? 1 : 0;
                turned = Math.min(999, turned + turns(v, world));
                tired = Math.min(99, tired + h.tires);
            }
            if (held == k && (best < 0 || turned <= best)) {
                best = turned;
                bestSet = set;
            }
        }
        return what == 0 ? bestSet : best;
    }

    int test(int from, int hours, int at, int to) {
        if (world == null) {
            return -2;
        }
        if (hours == -1) {
            tests = new ArrayList<>();
            return 0;
        }
        boolean good = from >= 0 && from <= 999 && hours >= 1 && hours <= 20 && at >= 0 && at <= 99 && to >= 0 && to <= 999;
        if (!good || tests.size() == 10) {
            return -2;
        }
        tests.add(new int[] {from, hours, at, to});
        return tests.size();
    }

    List<Integer> suspects() {
        List<Integer> all = new ArrayList<>();
        for (int h = 0; h < world.hands.size(); h++) {
            boolean so = true;
            for (int[] t : tests) {
                so &= carry(h, 0, t[0], t[2], t[1], 0) == t[3];
            }
            if (so) {
                all.add(h);
            }
        }
        return all;
    }

    int who(int what) {
        if (world == null || what < 0 || what > 2) {
            return -1;
        }
        List<Integer> all = suspects();
        if (what == 0) {
            return all.size();
        }
        if (what == 1) {
            return all.isEmpty() ? -2 : all.get(0);
        }
        int bits = 0;
        for (int h : all) {
            bits += 1 << h;
        }
        return bits;
    }

    int probe(int what) {
        if (world == null || what < 0 || what > 1) {
            return -1;
        }
        List<Integer> all = suspects();
        if (all.isEmpty()) {
            return -2;
        }
        int best = 99;
        int bestHours = 0;
        for (int hours = 20; hours >= 1; hours--) {
            Map<Integer, Integer> groups = new HashMap<>();
            int alike = 0;
            for (int h : all) {
                int turned = carry(h, 0, 0, world.hour, hours, 0);
                groups.merge(turned, 1, Integer::sum);
                alike = Math.max(alike, groups.get(turned));
            }
            if (alike <= best) {
                best = alike;
                bestHours = hours;
            }
        }
        return what == 0 ? bestHours : best;
    }

    /** Rows tried one by one; more than can be tried are told by the answer 12345678. */
    int rows(int n, int turned, int what) {
        boolean known = what == -1 || what >= 0 && what <= 11 || what >= 20 && what <= 31;
        if (world == null || n < 1 || n > 12 || turned < 0 || turned > 300 || !known) {
            return -3;
        }
        int hands = world.hands.size();
        long all = 1;
        for (int i = 0; i < n; i++) {
            all *= hands;
        }
        if (all > 20000) {
            return 12345678;
        }
        int count = 0;
        int[] first = null;
        int[] bits = new int[n];
        for (int row = 0; row < all; row++) {
            int[] in = new int[n];
            int rest = row;
            int sum = 0;
            for (int i = n - 1; i >= 0; i--) {
                in[i] = rest % hands;
                rest /= hands;
                sum += world.hands.get(in[i]).speed;
            }
            if (sum == turned) {
                count++;
                first = first == null ? in : first;
                for (int i = 0; i < n; i++) {
                    bits[i] |= 1 << in[i];
                }
            }
        }
        if (what == -1) {
            return count;
        }
        if (count == 0 || what % 20 >= n) {
            return -2;
        }
        return what < 20 ? first[what] : bits[what - 20];
    }

    int together(World w) {
        int sum = 0;
        for (Jug j : w.jugs) {
            sum += j.gone ? 0 : j.turned;
        }
        return sum;
    }

    int ice(int n) {
        if (world == null || n < 1 || n > 60) {
            return -1;
        }
        World a = world.copy();
        World b = world.copy();
        for (int i = 0; i < n; i++) {
            pass(a);
            ice = true;
            pass(b);
            ice = false;
        }
        return together(a) - together(b);
    }

    int seed(int y) {
        if (y < 0) {
            return -1;
        }
        int was = x;
        x = y;
        return was;
    }

    long drawn;

    int draw() {
        drawn = (drawn * 1103515245L + 12345L) % 2147483648L;
        return (int) (drawn / 65536);
    }

    int years(int m, int n, int what) {
        if (world == null || m < 1 || m > 10 || n < 1 || n > 60 || what < 0 || what > 1) {
            return -1;
        }
        drawn = x;
        int sour = 0;
        int turned = 0;
        for (int year = 0; year < m; year++) {
            World w = world.copy();
            for (int i = 0; i < n; i++) {
                for (Hand h : w.hands) {
                    if (h.toGo == 0) {
                        int place = draw() % w.places;
                        if (w.road(h.place, place) > 0) {
                            h.toGo = w.road(h.place, place);
                            h.place = place;
                        }
                    }
                }
                for (int j = 0; j < w.jugs.size() && !w.hands.isEmpty(); j++) {
                    if (w.jugs.get(j).stands()) {
                        int hand = draw() % w.hands.size();
                        if (canTake(w, hand, j)) {
                            w.jugs.get(j).holder = hand;
                        }
                    }
                }
                pass(w);
            }
            for (Jug j : w.jugs) {
                sour += !j.gone && j.turned >= w.sour ? 1 : 0;
            }
            turned += together(w);
        }
        return what == 0 ? sour : turned;
    }

    int count(int what) {
        World w = world == null ? new World() : world;
        switch (what) {
            case 0: return w.places;
            case 1: return w.ground;
            case 2: return w.sour;
            case 3: return w.roads.size();
            case 4: return w.hands.size();
            case 5: return w.jugs.size();
            case 6: return w.wants.size();
            case 7: return rules.size();
            case 8: return force;
            case 9: return w.hour;
            case 10: return w.heat(w.hour);
            case 11: return w.pay;
            case 12: return tests.size();
            case 13: return past.size();
            case 14: return x;
            case 15: return tape.length;
            default: return -1;
        }
    }

    int image(int k) {
        if (k < 0 || k > 3) {
            return -1;
        }
        Kept kept = new Kept();
        kept.world = world == null ? null : world.copy();
        kept.tests = new ArrayList<>(tests);
        kept.force = force;
        kept.x = x;
        images[k] = kept;
        return world == null ? 0 : world.hour;
    }

    int back(int k) {
        if (k < 0 || k > 3 || images[k] == null) {
            return -1;
        }
        world = images[k].world == null ? null : images[k].world.copy();
        tests = new ArrayList<>(images[k].tests);
        force = images[k].force;
        x = images[k].x;
        past.clear();
        return world == null ? 0 : world.hour;
    }

    /** One token at a time: its kind, where it starts, its text. */
    static final class Reader {
        final String text;
        int at;
        int start;
        String token;
        int counted;
        int deep;

        Reader(byte[] bytes) {
            text = new String(bytes, java.nio.charset.StandardCharsets.ISO_8859_1);
            next();
        }

        /** "" at the end. */
        void next() {
            while (at < text.length() && text.charAt(at) == ' ') {
                at++;
            }
            start = at;
            String rest = text.substring(at);
            java.util.regex.Matcher m = java.util.regex.Pattern.compile("^([a-z]+|[0-9]+|<=|>=|.)", java.util.regex.Pattern.DOTALL).matcher(rest);
            token = m.find() ? m.group() : "";
            at += token.length();
        }

        Fault fault(int kind) {
            return new Fault(start, kind);
        }

        int number(int least, int most) {
            if (!token.matches("[0-9]+")) {
                throw fault(0);
            }
            if (token.length() > 5) {
                throw fault(1);
            }
            int n = Integer.parseInt(token);
            if (n < least || n > most) {
                throw fault(1);
            }
            return n;
        }

        int take(int least, int most) {
            int n = number(least, most);
            next();
            return n;
        }

        World dairy() {
            World w = new World();
            int clauses = 0;
            while (true) {
                if (!List.of("dairy", "road", "hand", "jug", "heat", "want").contains(token)) {
                    throw fault(0);
                }
                if (clauses == 40 || token.equals("dairy") != (clauses == 0)) {
                    throw fault(4);
                }
                clauses++;
                clause(w);
                if (token.isEmpty()) {
                    return w;
                }
                if (!token.equals(";")) {
                    throw fault(0);
                }
                next();
            }
        }

        void clause(World w) {
            String kind = token;
            if (kind.equals("road") && w.roads.size() == 8 || kind.equals("hand") && w.hands.size() == 5
                    || kind.equals("jug") && w.jugs.size() == 4 || kind.equals("heat") && w.heats.size() == 4
                    || kind.equals("want") && w.wants.size() == 6) {
                throw fault(4);
            }
            next();
            switch (kind) {
                case "dairy":
                    w.places = take(2, 6);
                    w.ground = take(0, 9);
                    w.sour = take(10, 99);
                    break;
                case "road":
                    int a = take(0, w.places - 1);
                    int b = number(0, w.places - 1);
                    if (a == b || w.road(a, b) > 0) {
                        throw fault(1);
                    }
                    next();
                    w.roads.add(new int[] {a, b, take(1, 5)});
                    break;
                case "hand":
                    Hand h = new Hand();
                    h.place = take(0, w.places - 1);
                    h.speed = take(0, 20);
                    h.tires = take(0, 5);
                    w.hands.add(h);
                    break;
                case "jug":
                    Jug j = new Jug();
                    j.place = take(0, w.places - 1);
                    j.turned = take(0, 99);
                    w.jugs.add(j);
                    break;
                case "heat":
                    int first = take(0, 99);
                    int last = take(first, 99);
                    w.heats.add(new int[] {first, last, take(1, 5)});
                    break;
                default:
                    Want x = new Want();
                    x.place = take(0, w.places - 1);
                    x.least = take(0, 99);
                    x.most = take(x.least, 99);
                    x.pay = take(1, 50);
                    w.wants.add(x);
            }
        }

        List<Clause> rule() {
            List<Clause> all = new ArrayList<>();
            while (true) {
                if (!token.equals("turn")) {
                    throw fault(0);
                }
                if (all.size() == 12) {
                    throw fault(4);
                }
                next();
                Clause c = new Clause();
                c.sum = sum();
                if (token.equals("if")) {
                    next();
                    c.truth = test();
                }
                all.add(c);
                if (token.isEmpty()) {
                    return all;
                }
                if (!token.equals(";")) {
                    throw fault(0);
                }
                next();
            }
        }

        Truth test() {
            Truth a = part();
            while (token.equals("or")) {
                next();
                Truth l = a;
                Truth r = part();
                a = v -> l.of(v) || r.of(v);
            }
            return a;
        }

        Truth part() {
            Truth a = fact();
            while (token.equals("and")) {
                next();
                Truth l = a;
                Truth r = fact();
                a = v -> l.of(v) && r.of(v);
            }
            return a;
        }

        Truth fact() {
            if (token.equals("not") || token.equals("[")) {
                if (deep == 10) {
                    throw fault(2);
                }
                boolean not = token.equals("not");
                next();
                deep++;
                Truth inner = not ? fact() : test();
                deep--;
                if (not) {
                    return v -> !inner.of(v);
                }
                if (!token.equals("]")) {
                    throw fault(0);
                }
                next();
                return inner;
            }
            Sum a = sum();
            String sign = token;
            if (!List.of("<", "<=", "=", ">=", ">").contains(sign)) {
                throw fault(0);
            }
            countOne();
            next();
            Sum b = sum();
            switch (sign) {
                case "<": return v -> a.of(v) < b.of(v);
                case "<=": return v -> a.of(v) <= b.of(v);
                case "=": return v -> a.of(v) == b.of(v);
                case ">=": return v -> a.of(v) >= b.of(v);
                default: return v -> a.of(v) > b.of(v);
            }
        }

        void countOne() {
            if (counted == 60) {
                throw fault(3);
            }
            counted++;
        }

        Sum sum() {
            Sum a = term();
            while (token.equals("+") || token.equals("-")) {
                boolean plus = token.equals("+");
                next();
                Sum l = a;
                Sum r = term();
                a = plus ? v -> l.of(v) + r.of(v) : v -> l.of(v) - r.of(v);
            }
            return a;
        }

        Sum term() {
            Sum a = value();
            while (token.equals("*") || token.equals("/") || token.equals("%")) {
                String sign = token;
                next();
                Sum l = a;
                Sum r = value();
                if (sign.equals("*")) {
                    a = v -> l.of(v) * r.of(v);
                } else if (sign.equals("/")) {
                    a = v -> r.of(v) == 0 ? 0 : l.of(v) / r.of(v);
                } else {
                    a = v -> r.of(v) == 0 ? 0 : l.of(v) % r.of(v);
                }
            }
            return a;
        }

        Sum value() {
            Sum s;
            if (token.matches("[0-9]+")) {
                long n = number(0, 99999);
                s = v -> n;
            } else {
                switch (token) {
                    case "hand": s = v -> v.hand; break;
                    case "speed": s = v -> v.speed; break;
                    case "tired": s = v -> v.tired; break;
                    case "jug": s = v -> v.jug; break;
                    case "turned": s = v -> v.turned; break;
                    case "heat": s = v -> v.heat; break;
                    case "hour": s = v -> v.hour; break;
                    case "road": s = v -> v.road; break;
                    case "held": s = v -> v.held; break;
                    case "sour": s = v -> v.sour; break;
                    default: throw fault(0);
                }
            }
            countOne();
            next();
            return s;
        }
    }
}
