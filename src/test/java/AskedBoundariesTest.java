/** The edges of what is asked: promises 17 to 29, and part III. */
public final class AskedBoundariesTest extends Due {
    private static final int[] BEYOND = {-1, -2, MIN, MAX};
    private static final String CHAIN = "dairy 6 0 99;road 0 1 5;road 1 2 5;road 2 3 5;road 3 4 5;road 4 5 5";

    private static void ahead() {
        sentence("AHEAD n HOURS (0 to 100) .. -2 without these");
        TurningMilk m = of("dairy 2 9 10;hand 0 0 5;hand 0 0 1;jug 0 99;jug 0 0;heat 99 99 1;heat 5 5 3");
        due("0 HOURS", m.ahead(0, 0, 0), 99);
        due("0 HOURS", m.ahead(0, 0, 1), 0);
        due("1 HOUR", m.ahead(0, 1, 0), 108);
        due("99 HOURS", m.ahead(1, 99, 0), 9 * 99 + 3);
        due("100 HOURS", m.ahead(1, 100, 0), 9 * 100 + 4);
        due("999 at most", m.ahead(0, 100, 0), 999);
        due("up to it", m.ahead(0, 99, 0), 99 + 891 + 3);
        due("0 at least", m.ahead(1, 100, 1), 0);
        m.take(0, 1);
        due("TIRED", m.ahead(0, 19, 1), 95);
        due("99 at most", m.ahead(0, 20, 1), 99);
        due("99 at most", m.ahead(0, 100, 1), 99);
        for (int n : new int[] {-1, 101, MIN, MAX}) {
            nothingHappens(Due::busy, "ahead(0, " + n + ", 0)", t -> t.ahead(0, n, 0), -2);
            nothingHappens(Due::busy, "ahead(0, " + n + ", 1)", t -> t.ahead(0, n, 1), -2);
        }
        for (int number : BEYOND) {
            nothingHappens(Due::busy, "ahead(" + number + ", 1, 0)", t -> t.ahead(number, 1, 0), -2);
            nothingHappens(Due::busy, "ahead(" + number + ", 1, 1)", t -> t.ahead(number, 1, 1), -2);
            nothingHappens(Due::busy, "ahead(0, 1, " + number + ")", t -> t.ahead(0, 1, number), -2);
        }
        due("JUG 3", busy().ahead(3, 0, 0), 15);
        due("JUG 4", busy().ahead(4, 0, 0), -2);
        due("HAND 2", busy().ahead(2, 0, 1), 0);
        due("HAND 3", busy().ahead(3, 0, 1), -2);
        due("what 2", busy().ahead(0, 0, 2), -2);
        due("no DAIRY", bare().ahead(0, 0, 0), -2);
        due("no DAIRY", bare().ahead(0, 0, 1), -2);
        sentence("TURNED of a JUG (NONE if it is gone)");
        for (int n : new int[] {0, 1, 100}) {
            nothingHappens(Due::busy, "ahead(2, " + n + ", 0)", t -> t.ahead(2, n, 0), -1);
        }
        due("101 HOURS", busy().ahead(2, 101, 0), -2);
    }

    private static void way() {
        sentence("WAY what 0: HOURS, 1: the next PLACE (NONE: it is there); -2: there is none. -3 without these.");
        for (int n : BEYOND) {
            nothingHappens(Due::busy, "way(" + n + ", 0, 0)", m -> m.way(n, 0, 0), -3);
            nothingHappens(Due::busy, "way(0, " + n + ", 0)", m -> m.way(0, n, 0), -3);
            nothingHappens(Due::busy, "way(0, 1, " + n + ")", m -> m.way(0, 1, n), -3);
        }
        TurningMilk m = busy();
        due("way(4, 0, 0)", m.way(4, 0, 0), -3);
        due("way(0, 4, 0)", m.way(0, 4, 0), -3);
        due("way(0, 1, 2)", m.way(0, 1, 2), -3);
        due("no WAY, but what's asked is not", m.way(0, 3, 2), -3);
        due("no WAY", m.way(0, 3, 0), -2);
        due("no WAY", m.way(0, 3, 1), -2);
        due("no WAY", m.way(3, 2, 0), -2);
        due("it is there", m.way(3, 3, 0), 0);
        due("it is there", m.way(3, 3, 1), -1);
        due("no DAIRY", bare().way(0, 0, 0), -3);
        due("no DAIRY", bare().way(0, 1, 1), -3);
        sentence("the fewest HOURS by ROADS; the next PLACE, of several the least");
        TurningMilk chain = of(CHAIN);
        due("the longest", chain.way(5, 0, 0), 25);
        due("its next", chain.way(5, 0, 1), 4);
        TurningMilk even = of("dairy 4 0 10;road 3 2 1;road 2 0 1;road 3 1 1;road 1 0 1;road 3 0 2");
        due("of three", even.way(3, 0, 1), 0);
        due("of three", even.way(0, 3, 1), 1);
        due("of two", even.way(1, 2, 1), 0);
        due("2 HOURS", even.way(3, 0, 0), 2);
        TurningMilk round = of("dairy 3 0 10;road 0 1 5;road 0 2 2;road 2 1 2");
        due("round it is nearer", round.way(0, 1, 0), 4);
        due("round it is nearer", round.way(0, 1, 1), 2);
        TurningMilk star = of("dairy 6 0 10;road 0 1 1;road 0 2 2;road 0 3 3;road 0 4 4;road 0 5 5");
        for (int from = 0; from < 6; from++) {
            for (int to = 0; to < 6; to++) {
                due("HOURS from " + from + " to " + to, star.way(from, to, 0), from == to ? 0 : from + to);
                due("next from " + from + " to " + to, star.way(from, to, 1), from == to ? -1 : from == 0 ? to : 0);
            }
        }
    }

    private static void brings() {
        sentence("BRINGS; -2: there is no WAY; NONE without these (a JUG that stands).");
        int[][] calls = {{0, 0, 1}, {0, 2, 1}, {0, 3, 1}, {0, 4, 1}, {3, 1, 1}, {0, 1, 4}, {3, 1, 3}, {0, 0, 3}};
        for (int[] c : calls) {
            nothingHappens(Due::busy, "brings(" + c[0] + ", " + c[1] + ", " + c[2] + ")", m -> m.brings(c[0], c[1], c[2]), -1);
        }
        for (int n : BEYOND) {
            nothingHappens(Due::busy, "brings(" + n + ", 1, 0)", m -> m.brings(n, 1, 0), -1);
            nothingHappens(Due::busy, "brings(0, " + n + ", 0)", m -> m.brings(0, n, 0), -1);
            nothingHappens(Due::busy, "brings(0, 1, " + n + ")", m -> m.brings(0, 1, n), -1);
        }
        nothingHappens(Due::busy, "no WAY", m -> m.brings(0, 1, 3), -2);
        nothingHappens(Due::busy, "it is there", m -> m.brings(2, 1, 1), 14);
        nothingHappens(Due::busy, "an HOUR with HEAT", m -> m.brings(2, 1, 2), 14 + 8);
        due("no DAIRY", bare().brings(0, 0, 0), -1);
        due("no HANDS", of("dairy 2 0 10;jug 0 0").brings(0, 0, 0), -1);
        TurningMilk far = of(CHAIN + ";hand 0 0 5;hand 3 20 5;jug 0 99");
        int[] due = {99, 99};
        for (int i = 0; i < 25; i++) {
            due[0] += Math.min(99, 5 * i) / 4;
            due[1] += 20 + Math.min(99, 5 * i) / 4;
        }
        due("TIRED 99 at most", far.brings(0, 0, 5), due[0]);
        due("999 at most", far.brings(1, 0, 5), Math.min(999, due[1]));
        rule(far, "turn 40");
        rule(far, "turn 36");
        far.force(0);
        due("999 at most", far.brings(0, 0, 5), 999);
        far.force(1);
        due("just 999", far.brings(0, 0, 5), 999);
        due("less", far.brings(0, 0, 4), 99 + 720);
        sentence("holds it alone from now on and goes with it by the WAY from the JUG's PLACE (on ROADS all the time)");
        TurningMilk alone = of(CHAIN + ";hand 3 1 0;hand 2 1 5;jug 3 0;jug 0 0;jug 3 0", "turn road * 20 + held * 10 + jug * 4 + hand * 2 + tired");
        alone.take(0, 0);
        alone.take(0, 2);
        due("alone", alone.brings(0, 1, 1), 5 * (20 + 10 + 4));
        alone.put(0, 0);
        due("alone", alone.brings(1, 0, 4), 5 * (20 + 10 + 2) + 5 * (0 + 1 + 2 + 3 + 4) - 2);
    }

    private static void relayRefused() {
        sentence("RELAY (0 to 999, the most not below the least) .. -3 without these (a JUG that stands).");
        int[][] calls = {{1, 2, -1, 9, 0}, {1, 2, 0, 1000, 0}, {1, 2, 9, 8, 0}, {1, 2, 999, 998, 0}, {1, 2, 1000, 1000, 0},
            {1, 2, -1, -1, 0}, {1, 2, 0, 9, -1}, {1, 2, 0, 9, 7}, {0, 2, 0, 9, 0}, {2, 2, 0, 9, 0}, {3, 2, 0, 9, 0}, {4, 2, 0, 9, 0},
            {1, 4, 0, 9, 0}, {1, 3, 0, 9, 7}, {1, 3, 9, 8, 0}};
        for (int[] c : calls) {
            String call = "relay" + java.util.Arrays.toString(c);
            nothingHappens(Due::busy, call, m -> m.relay(c[0], c[1], c[2], c[3], c[4]), -3);
        }
        for (int n : BEYOND) {
            nothingHappens(Due::busy, "relay of JUG " + n, m -> m.relay(n, 2, 0, 9, 0), -3);
            nothingHappens(Due::busy, "relay to " + n, m -> m.relay(1, n, 0, 9, 0), -3);
            nothingHappens(Due::busy, "relay from " + n, m -> m.relay(1, 2, n, n, 0), -3);
            nothingHappens(Due::busy, "relay what " + n, m -> m.relay(1, 2, 0, 9, n), -3);
        }
        due("least MIN, most MAX", busy().relay(1, 2, MIN, MAX, 0), -3);
        due("no DAIRY", bare().relay(0, 0, 0, 9, 0), -3);
        sentence("-2: there is no WAY, or there are ROADS and no HANDS");
        TurningMilk nobody = of("dairy 3 0 10;road 0 1 1;jug 0 4");
        for (int what = 0; what <= 6; what++) {
            int asked = what;
            nothingHappens(Due::busy, "no WAY", m -> m.relay(1, 3, 0, 999, asked), -2);
            due("no HANDS", nobody.relay(0, 1, 0, 999, what), -2);
            due("no HANDS, no WAY", nobody.relay(0, 2, 0, 999, what), -2);
        }
        sentence("of no ROADS there is one row, of no HANDS");
        int[] due = {1, 4, -2, -2, -2, -2, -2};
        for (int what = 0; what <= 6; what++) {
            due("it is there", nobody.relay(0, 0, 4, 4, what), due[what]);
        }
        due("not as told", nobody.relay(0, 0, 5, 999, 0), 0);
        due("not as told", nobody.relay(0, 0, 0, 3, 0), 0);
        due("as told or not", nobody.relay(0, 0, 5, 999, 1), 4);
    }

    private static void relay() {
        sentence("RELAY what 0: how many rows, 1: the least TURNED of all, 2 to 6: the HAND of that ROAD less 2 (-2: so many ..)");
        TurningMilk m = of(CHAIN + ";hand 3 1 0;hand 0 2 0;hand 5 0 0;hand 1 4 0;hand 4 3 0;jug 0 7");
        due("all rows of five ROADS", m.relay(0, 5, 0, 999, 0), 3125);
        for (int roads = 1; roads <= 5; roads++) {
            due("rows of " + roads, m.relay(0, roads, 0, 999, 0), (int) Math.pow(5, roads));
            due("the least of " + roads, m.relay(0, roads, 999, 999, 1), 7);
            due("no row of " + roads, m.relay(0, roads, 999, 999, 0), 0);
            for (int what = 2; what <= 6; what++) {
                due("the first of " + roads, m.relay(0, roads, 0, 999, what), what - 2 < roads ? 0 : -2);
                due("no row of " + roads, m.relay(0, roads, 999, 999, what), -2);
            }
        }
        due("from the least on", m.relay(0, 1, 7, 7, 0), 1);
        due("from the least on", m.relay(0, 1, 7, 7, 2), 2);
        due("to the most", m.relay(0, 1, 12, 22, 0), 3);
        due("one beyond", m.relay(0, 1, 13, 21, 0), 1);
        due("the most of all", m.relay(0, 5, 107, 107, 0), 1);
        due("the most of all", m.relay(0, 5, 107, 107, 6), 3);
        due("one beyond", m.relay(0, 5, 108, 999, 0), 0);
        due("the first by HANDS", m.relay(0, 2, 7 + 20, 7 + 20, 2), 0);
        due("the first by HANDS", m.relay(0, 2, 7 + 20, 7 + 20, 3), 4);
        TurningMilk late = of(CHAIN + ";hand 0 0 5;hand 0 20 0;jug 0 99", "turn 40 + hand");
        due("999 at most", late.relay(0, 5, 999, 999, 0), 32);
        due("999 at most", late.relay(0, 5, 999, 999, 1), 999);
        due("999 at most", late.relay(0, 4, 999, 999, 0), 0);
        TurningMilk fresh = of(CHAIN + ";hand 0 0 5;jug 0 0");
        due("not TIRED at its begin", fresh.relay(0, 2, 0, 999, 1), 2 * (0 + 1 + 2 + 3 + 5));
        TurningMilk hot = of(CHAIN + ";hand 3 0 0;jug 0 0;jug 0 0;heat 7 11 4;heat 12 99 1", "turn heat + road * 10 + held * 5 + jug * 2");
        hours(hot, 2);
        due("the HOURS go on", hot.relay(1, 2, 0, 999, 1), 10 * 17 + 20);
        due("the HOURS go on", hot.relay(1, 3, 0, 999, 1), 15 * 17 + 20 + 5);
    }

    private static void match() {
        sentence("MATCH what 0: PAY, 1 to 6: .. (NONE: none, or it is met; -2: there is no such WANT). -3 for others, or without ..");
        for (int what : new int[] {-1, -2, 7, MIN, MAX}) {
            nothingHappens(Due::busy, "match(" + what + ")", m -> m.match(what), -3);
        }
        for (int what = 0; what <= 6; what++) {
            due("no DAIRY", bare().match(what), -3);
            due("no WANTS", of("dairy 2 0 10;jug 0 0").match(what), what == 0 ? 0 : -2);
            int asked = what;
            int[] due = {14, 1, 0, -1, -2, -2, -2};
            nothingHappens(Due::busy, "match(" + what + ")", m -> m.match(asked), due[what]);
        }
        TurningMilk full = of("dairy 2 0 10" + times(";jug 1 5", 4) + times(";want 0 5 5 50", 6));
        due("the most PAY", full.match(0), 200);
        int[] jugs = {-1, -1, 0, 1, 2, 3};
        for (int want = 0; want < 6; want++) {
            due("none ahead of JUG 0", full.match(want + 1), jugs[want]);
        }
        sentence("so that each would have TURNED as told");
        int[] due = {-1, 0, 0, -1};
        for (int i = 0; i < 4; i++) {
            TurningMilk m = of("dairy 2 0 10;jug 1 " + (4 + i) + ";want 0 5 6 3");
            due("TURNED " + (4 + i), m.match(1), due[i]);
            due("TURNED " + (4 + i), m.match(0), due[i] < 0 ? 0 : 3);
        }
        due("no JUGS", of("dairy 2 0 10;want 0 5 6 3").match(0), 0);
        due("no JUGS", of("dairy 2 0 10;want 0 5 6 3").match(1), -1);
        TurningMilk better = of("dairy 2 0 10;jug 0 5;jug 0 9;want 0 0 9 50;want 0 9 9 49;want 0 9 9 1");
        due("both", better.match(0), 99);
        due("WANT 0", better.match(1), 0);
        due("WANT 1", better.match(2), 1);
        due("WANT 2", better.match(3), -1);
    }

    private static void rest() {
        sentence("REST of a HAND for n HOURS, of which it holds a JUG in k (n 1 to 10, k 0 to n) .. NONE without these.");
        int[][] calls = {{0, 0, 0, 0}, {0, 11, 1, 0}, {0, 3, -1, 0}, {0, 3, 4, 0}, {0, 10, 11, 0}, {0, 1, 1, 2}, {0, 1, 1, -1}, {3, 1, 1, 0}};
        for (int[] c : calls) {
            String call = "rest" + java.util.Arrays.toString(c);
            nothingHappens(Due::busy, call, m -> m.rest(c[0], c[1], c[2], c[3]), -1);
        }
        for (int n : BEYOND) {
            nothingHappens(Due::busy, "HAND " + n, m -> m.rest(n, 1, 1, 0), -1);
            nothingHappens(Due::busy, n + " HOURS", m -> m.rest(0, n, 1, 0), -1);
            nothingHappens(Due::busy, n + " HOURS with a JUG", m -> m.rest(0, 10, n, 0), -1);
            nothingHappens(Due::busy, "what " + n, m -> m.rest(0, 1, 1, n), -1);
        }
        due("no DAIRY", bare().rest(0, 1, 1, 0), -1);
        due("no HANDS", of("dairy 2 0 10;jug 0 0").rest(0, 1, 1, 0), -1);
        TurningMilk m = of("dairy 2 9 10;hand 0 2 4;heat 0 0 5;heat 9 9 1");
        for (int n = 1; n <= 10; n++) {
            due("never", m.rest(0, n, 0, 0), 0);
            due("never", m.rest(0, n, 0, 1), 0);
            due("always", m.rest(0, n, n, 0), (1 << n) - 1);
            due("always", m.rest(0, n, n, 1), 2 * n + n * (n - 1) / 2 + 5 + (n == 10 ? 1 : 0));
        }
        sentence("of several sets the least as bits (this HOUR 1)");
        due("not in the HEAT", m.rest(0, 10, 1, 0), 2);
        due("not in the HEAT", m.rest(0, 10, 1, 1), 2);
        due("in the HEAT", m.rest(0, 1, 1, 1), 7);
        TurningMilk even = of("dairy 2 0 10;hand 0 7 0");
        for (int k = 0; k <= 10; k++) {
            due("all alike", even.rest(0, 10, k, 0), (1 << k) - 1);
            due("all alike", even.rest(0, 10, k, 1), 7 * k);
        }
        sentence("TIRED as it is (99 at most, 0 at least)");
        TurningMilk tired = of("dairy 2 0 10;hand 0 0 5;jug 0 0");
        tired.take(0, 0);
        hours(tired, 20);
        due("99, 99, 99", tired.rest(0, 3, 3, 1), 24 * 3);
        due("98", tired.rest(0, 2, 1, 1), 24);
        due("98", tired.rest(0, 2, 1, 0), 1);
        due("95, a quarter downwards", tired.rest(0, 5, 1, 1), 23);
        due("95, a quarter downwards", tired.rest(0, 5, 1, 0), 16);
        due("nothing changes", tired.hand(0, 2), 99);
        sentence("from now on .. (it stands nowhere and does not turn in the others; it is JUG 0 by WORDS)");
        TurningMilk later = of("dairy 2 9 10;road 0 1 2;hand 0 0 2;jug 0 0;jug 0 0", "turn 50 - hour * 5");
        due("the last HOUR", later.rest(0, 10, 1, 0), 512);
        due("the last HOUR", later.rest(0, 10, 1, 1), 5);
        rule(later, "turn tired + 9 if hour > 0;turn 40");
        later.force(1);
        due("0 at least", later.rest(0, 2, 1, 1), 9);
        rule(later, "turn held * 10 + jug * 5 + road * 20 + turned");
        later.force(2);
        later.take(0, 0);
        later.take(0, 1);
        due("alone, at a PLACE", later.rest(0, 2, 2, 1), 10 + 20);
        later.go(0, 1);
        due("on its ROAD", later.rest(0, 2, 2, 1), 30 + 50);
        due("on its ROAD, then there", later.rest(0, 4, 2, 1), 10 + 20);
        due("on its ROAD, then there", later.rest(0, 4, 2, 0), 12);
    }

    private static void test() {
        sentence("A TEST (from 0 to 999, hours 1 to 20 ..; at an HOUR 0 to 99; to 0 to 999): how many; -2, and nothing happens, ..");
        int[][] good = {{0, 1, 0, 0}, {999, 1, 0, 0}, {0, 20, 0, 0}, {0, 1, 99, 0}, {0, 1, 0, 999}, {999, 20, 99, 999}};
        for (int[] t : good) {
            due("test" + java.util.Arrays.toString(t), busy().test(t[0], t[1], t[2], t[3]), 2);
        }
        int[][] bad = {{-1, 1, 0, 0}, {1000, 1, 0, 0}, {0, 0, 0, 0}, {0, 21, 0, 0}, {0, -2, 0, 0}, {0, 1, -1, 0}, {0, 1, 100, 0},
            {0, 1, 0, -1}, {0, 1, 0, 1000}, {MIN, 1, 0, 0}, {MAX, 1, 0, 0}, {0, MIN, 0, 0}, {0, MAX, 0, 0}, {0, 1, MIN, 0},
            {0, 1, MAX, 0}, {0, 1, 0, MIN}, {0, 1, 0, MAX}};
        for (int[] t : bad) {
            nothingHappens(Due::busy, "test" + java.util.Arrays.toString(t), m -> m.test(t[0], t[1], t[2], t[3]), -2);
        }
        nothingHappens(Due::bare, "no DAIRY", m -> m.test(0, 1, 0, 0), -2);
        nothingHappens(Due::bare, "no DAIRY", m -> m.test(0, -1, 0, 0), -2);
        sentence("TESTS 0 to 9; -2 .. if there are 10; NONE: there are none then, 0");
        due("the tenth", tests(9).test(0, 1, 0, 3), 10);
        nothingHappens(() -> tests(10), "an eleventh", m -> m.test(0, 1, 0, 3), -2);
        for (int n : new int[] {0, 1, 10}) {
            TurningMilk m = tests(n);
            due("NONE", m.test(0, -1, 0, 0), 0);
            due("TESTS", m.count(12), 0);
            due("all HANDS again", m.who(0), 2);
            due("anew", m.test(0, 1, 0, 3), 1);
        }
    }

    private static TurningMilk tests(int n) {
        TurningMilk m = of("dairy 2 0 10;hand 0 3 0;hand 0 4 0;jug 0 0");
        for (int i = 0; i < n; i++) {
            due("test", m.test(0, 1, 0, 3), i + 1);
        }
        return m;
    }

    private static void who() {
        sentence("WHO what 0: how many, 1: the first (-2: there is none), 2: as bits. NONE for others, or without a DAIRY.");
        for (int what : new int[] {-1, -2, 3, MIN, MAX}) {
            nothingHappens(Due::busy, "who(" + what + ")", m -> m.who(what), -1);
        }
        TurningMilk none = of("dairy 2 0 10");
        TurningMilk all = of("dairy 2 0 10" + times(";hand 0 20 5", 5));
        TurningMilk nobody = of("dairy 2 0 10" + times(";hand 0 20 5", 5));
        nobody.test(0, 1, 0, 19);
        int[] noneDue = {0, -2, 0};
        int[] allDue = {5, 0, 31};
        for (int what = 0; what < 3; what++) {
            due("no DAIRY", bare().who(what), -1);
            due("no HANDS", none.who(what), noneDue[what]);
            due("no TESTS", all.who(what), allDue[what]);
            due("nobody", nobody.who(what), noneDue[what]);
        }
        sentence("for so many HOURS (1 to 20) from an HOUR (0 to 99) on .. and had TURNED so much then");
        TurningMilk m = of("dairy 2 0 10;hand 0 20 0;hand 0 10 0;hand 0 20 1;heat 98 99 5;heat 99 99 4");
        due("from 99 on", m.test(0, 1, 99, 29), 1);
        due("from 99 on", m.who(2), 5);
        m.test(0, 20, 99, 409);
        due("20 HOURS", m.who(2), 1);
        m.test(990, 20, 0, 999);
        due("999 at most", m.who(2), 1);
        m.test(0, -1, 0, 0);
        m.test(979, 1, 0, 999);
        due("just 999", m.who(2), 5);
        m.test(999, 1, 98, 999);
        due("999 at most", m.who(2), 5);
        m.test(999, 20, 98, 998);
        due("never less", m.who(1), -2);
        sentence("held by the HAND in question, not TIRED at its begin, .. alone, at a PLACE (it is JUG 0 by WORDS)");
        TurningMilk words = of("dairy 2 0 10;road 0 1 5;hand 0 0 5;hand 0 0 0;jug 0 0;jug 0 0", "turn held * 10 + jug * 5 + road * 20 + tired");
        words.take(0, 0);
        words.take(0, 1);
        words.hour();
        words.go(0, 1);
        words.test(0, 1, 0, 10);
        due("both", words.who(2), 3);
        words.test(3, 2, 0, 28);
        due("the one that tires", words.who(2), 1);
        words.undo();
        due("it is there", words.put(0, 0), 0);
        due("HAND 1 by the ROAD", words.brings(1, 0, 1), 20 + 5 * 30);
        due("still at a PLACE", words.who(2), 1);
    }

    private static void probe() {
        sentence("PROBE what 0: HOURS, 1: how many; -2: there is nobody. NONE for others, or without a DAIRY.");
        for (int what : new int[] {-1, -2, 2, MIN, MAX}) {
            nothingHappens(Due::busy, "probe(" + what + ")", m -> m.probe(what), -1);
        }
        TurningMilk nobody = of("dairy 2 0 10;hand 0 3 0");
        nobody.test(0, 1, 0, 4);
        for (int what = 0; what < 2; what++) {
            due("no DAIRY", bare().probe(what), -1);
            due("no HANDS", of("dairy 2 0 10").probe(what), -2);
            due("nobody", nobody.probe(what), -2);
            due("one alone", of("dairy 2 0 10;hand 0 3 0").probe(what), 1);
            due("five alike", of("dairy 2 0 10" + times(";hand 0 3 0", 5)).probe(what), what == 0 ? 1 : 5);
        }
        sentence("for how many HOURS (1 to 20) from now on .. these part best: the most alike are fewest, of several the least");
        int[][] parts = {{0, 1, 1}, {1, 2, 1}, {18, 19, 1}, {19, 20, 1}, {20, 1, 2}};
        for (int[] p : parts) {
            TurningMilk m = of("dairy 2 0 10;hand 0 3 0;hand 0 3 0", "turn hand if hour = " + (p[0] + 2));
            hours(m, 2);
            due("they part in HOUR " + p[0], m.probe(0), p[1]);
            due("they part in HOUR " + p[0], m.probe(1), p[2]);
        }
        TurningMilk late = of("dairy 2 0 10;hand 0 3 0;hand 0 3 0", "turn 50 if hour < 19;turn hand * 50");
        due("950 and 999 at most", late.probe(0), 20);
        due("950 and 999 at most", late.probe(1), 1);
        TurningMilk five = of("dairy 2 0 10;hand 0 5 0;hand 0 5 4;hand 0 5 2;hand 0 5 4;hand 0 5 2;jug 0 0");
        due("one and two pairs", five.probe(0), 3);
        due("one and two pairs", five.probe(1), 2);
        five.take(1, 0);
        hours(five, 9);
        due("not TIRED, TURNED 0", five.probe(0), 3);
        TurningMilk words = of("dairy 2 0 10;road 0 1 5;hand 0 0 5;hand 0 0 0;jug 0 0;jug 0 0", "turn hand if held + jug + road + turned = 1");
        words.take(0, 0);
        words.take(0, 1);
        words.go(0, 1);
        due("alone, at a PLACE, JUG 0", words.probe(1), 1);
        due("alone, at a PLACE, JUG 0", words.probe(0), 1);
    }

    private static void rows() {
        sentence("ROWS what NONE: how many, 0 to 11: .., 20 to 31: .. -3 without these, or a DAIRY.");
        int[][] bad = {{0, 0, -1}, {13, 0, -1}, {1, -1, -1}, {1, 301, -1}, {1, 0, -2}, {12, 0, 12}, {12, 0, 19}, {12, 0, 32},
            {MIN, 0, -1}, {MAX, 0, -1}, {1, MIN, -1}, {1, MAX, -1}, {1, 0, MIN}, {1, 0, MAX}, {-1, 0, -1}};
        for (int[] r : bad) {
            nothingHappens(Due::busy, "rows" + java.util.Arrays.toString(r), m -> m.rows(r[0], r[1], r[2]), -3);
        }
        for (int what : new int[] {-1, 0, 11, 20, 31}) {
            due("no DAIRY", bare().rows(1, 0, what), -3);
            due("no HANDS", of("dairy 2 0 10").rows(12, 0, what), what < 0 ? 0 : -2);
        }
        sentence("there is no row, or so many HOURS there are not: -2");
        TurningMilk m = of("dairy 2 0 10;hand 0 20 0;hand 0 0 0;hand 0 20 0;hand 0 7 5;hand 0 0 3");
        for (int n = 1; n <= 12; n++) {
            for (int at = 0; at <= 11; at++) {
                due("the first", m.rows(n, 0, at), at < n ? 1 : -2);
                due("some", m.rows(n, 0, 20 + at), at < n ? 18 : -2);
                due("no row", m.rows(n, 1, at), -2);
                due("no row", m.rows(n, 1, 20 + at), -2);
            }
            due("none", m.rows(n, 1, -1), 0);
            due("all at 0", m.rows(n, 0, -1), 1 << n);
        }
        more(of("dairy 2 0 10;hand 0 20 0;hand 0 0 0;hand 0 20 0;hand 0 7 5;hand 0 0 3"));
    }

    private static void more(TurningMilk m) {
        sentence("ROWS of n HOURS (1 to 12) by which milk TURNED so much more (0 to 300), each HOUR in one HAND by SPEED alone");
        due("the most of all", m.rows(12, 240, -1), 1 << 12);
        due("the most of all", m.rows(12, 240, 31), 5);
        due("one more", m.rows(12, 241, -1), 0);
        due("300", m.rows(12, 300, -1), 0);
        due("300", m.rows(12, 300, 0), -2);
        due("all by 7", m.rows(12, 84, 11), 3);
        due("first", m.rows(2, 27, 0), 0);
        due("first", m.rows(2, 27, 1), 3);
        due("some", m.rows(2, 27, 21), 13);
        sentence("how many there are, of 1000000007 the rest");
        due("the most rows", of("dairy 2 0 10" + times(";hand 0 5 0", 5)).rows(12, 60, -1), 244140625);
    }

    private static void ice() {
        sentence("ICE: by how much less all JUGS together would have TURNED in n HOURS (1 to 60) .. NONE without these, or a DAIRY.");
        for (int n : new int[] {0, 61, -1, MIN, MAX}) {
            nothingHappens(Due::busy, "ice(" + n + ")", m -> m.ice(n), -1);
        }
        due("no DAIRY", bare().ice(1), -1);
        due("no JUGS", of("dairy 2 0 10;heat 0 9 5").ice(60), 0);
        due("no HEAT", of("dairy 2 9 10;jug 0 0").ice(60), 0);
        TurningMilk m = of("dairy 2 0 10;jug 0 0;jug 1 5;heat 0 0 3;heat 59 60 1");
        due("ice(1)", m.ice(1), 6);
        due("ice(59)", m.ice(59), 6);
        due("ice(60)", m.ice(60), 8);
        m.hour();
        due("from now on", m.ice(58), 0);
        due("from now on", m.ice(60), 4);
        TurningMilk full = of("dairy 2 9 10;jug 0 99" + times(";heat 0 99 5", 4));
        due("999 at most with HEAT", full.ice(60), 999 - (99 + 540));
        hours(full, 60);
        due("999 both ways", full.ice(60), 0);
        nothingHappens(Due::busy, "ice(1)", t -> t.ice(1), 6);
        nothingHappens(Due::busy, "a gone one is none", t -> t.ice(60), 6);
    }

    private static void seed() {
        sentence("x becomes a number: what it was; NONE, and nothing happens, below 0.");
        nothingHappens(Due::busy, "seed(-1)", m -> m.seed(-1), -1);
        nothingHappens(Due::busy, "seed(MIN)", m -> m.seed(MIN), -1);
        TurningMilk m = new TurningMilk();
        due("0 at first", m.seed(MAX), 0);
        due("the most", m.seed(0), MAX);
        due("the least", m.seed(1), 0);
        due("x", m.count(14), 1);
    }

    private static void years() {
        sentence("YEARS m times (1 to 10) n HOURS (1 to 60) .. NONE without these, or a DAIRY.");
        int[][] bad = {{0, 1, 0}, {11, 1, 0}, {1, 0, 0}, {1, 61, 0}, {1, 1, -1}, {1, 1, 2}, {-1, 1, 0}, {1, -1, 0}, {MIN, 1, 0}, {MAX, 1, 0},
            {1, MIN, 0}, {1, MAX, 0}, {1, 1, MIN}, {1, 1, MAX}};
        for (int[] y : bad) {
            nothingHappens(Due::busy, "years" + java.util.Arrays.toString(y), m -> m.years(y[0], y[1], y[2]), -1);
        }
        due("no DAIRY", bare().years(1, 1, 0), -1);
        due("no DAIRY", bare().years(1, 1, 1), -1);
        TurningMilk still = of("dairy 2 2 14;jug 0 4;jug 1 3;jug 0 0;want 0 0 0 1");
        due("10 times 60 HOURS", still.years(10, 60, 1), 10 * (124 + 123 + 120));
        due("10 times 60 HOURS", still.years(10, 60, 0), 30);
        due("4 HOURS", still.years(1, 4, 0), 0);
        due("SOUR, just", still.years(3, 5, 0), 3);
        due("999 at most", of("dairy 2 9 14;jug 0 99;heat 0 99 5;heat 0 99 5").years(2, 60, 1), 2 * 999);
        still.meet(0);
        sentence("nothing stays; x as it was; JUGS that are gone are none");
        due("a gone one is none", still.years(10, 60, 1), 10 * (124 + 123));
        due("a gone one is none", still.years(10, 60, 0), 20);
        due("no JUGS", of("dairy 2 2 14;hand 0 1 1").years(10, 60, 1), 0);
        nothingHappens(Due::busy, "years(10, 60, 0)", m -> m.years(10, 60, 0), busy().years(10, 60, 0));
        draws();
    }

    private static void draws() {
        sentence("DRAWS: x becomes x * 1103515245 + 12345, of 2147483648 the rest; a DRAW is x / 65536");
        // the DRAWS from 0 are 0, 21468; from MAX the first is 15929; from 1 they are 16838, 5758
        TurningMilk m = of("dairy 2 1 10;road 0 1 2;hand 0 5 0;jug 0 0");
        due("from 0 it stays and takes", m.years(1, 1, 1), 5);
        m.seed(MAX);
        due("from the most it goes", m.years(1, 1, 1), 1);
        due("x as it was", m.count(14), MAX);
        m.seed(1);
        due("from 1 it stays and takes", m.years(1, 1, 1), 5);
        due("nobody is on a ROAD", m.hand(0, 1), 0);
        due("it stands", m.jug(0, 0), 0);
        for (int x : new int[] {0, 1, 2, 65535, 65536, 1 << 30, MAX - 1, MAX, 123456789}) {
            takers(x);
        }
        sentence("it GOES there, if it can; that one TAKES it, if it can (without HANDS none)");
        TurningMilk near = of("dairy 2 1 10;road 0 1 1;hand 0 5 0;jug 0 0");
        near.seed(MAX);
        due("by a ROAD of an HOUR", near.years(1, 1, 1), 1);
        TurningMilk three = of("dairy 2 1 10;hand 0 5 0;jug 0 0;jug 0 0;jug 0 0;jug 0 0");
        due("2 at most", three.years(1, 1, 1), 5 + 5 + 1 + 1);
        TurningMilk away = of("dairy 2 1 10;hand 1 5 0;jug 0 0");
        due("elsewhere", away.years(1, 1, 1), 1);
    }

    private static long next(long x) {
        return (x * 1103515245L + 12345L) % 2147483648L;
    }

    /** Five HANDS who can go nowhere, of which one takes the JUG; then five of which one is on a ROAD. */
    private static void takers(int x) {
        TurningMilk m = of("dairy 3 0 10;road 1 2 5;hand 0 3 0;hand 0 5 0;hand 0 7 0;hand 0 11 0;hand 0 13 0;jug 0 0");
        int[] speed = {3, 5, 7, 11, 13};
        m.seed(x);
        long now = x;
        int sum = 0;
        for (int year = 1; year <= 3; year++) {
            for (int draw = 0; draw < 6; draw++) {
                now = next(now);
            }
            sum += speed[(int) (now / 65536 % 5)];
            due("years(" + year + ", 1, 1) from " + x, m.years(year, 1, 1), sum);
        }
        TurningMilk road = of("dairy 3 0 10;road 1 2 5;hand 0 3 0;hand 0 5 0;hand 1 7 0;hand 0 11 0;hand 0 13 0;jug 0 0");
        road.go(2, 2);
        road.seed(x);
        now = x;
        for (int draw = 0; draw < 5; draw++) {
            now = next(now);
        }
        int taker = (int) (now / 65536 % 5);
        due("one is on a ROAD, from " + x, road.years(1, 1, 1), taker == 2 ? 0 : speed[taker]);
        due("x as it was", road.count(14), x);
    }

    public static void main(String[] args) {
        ahead();
        way();
        brings();
        relayRefused();
        relay();
        match();
        rest();
        test();
        who();
        probe();
        rows();
        ice();
        seed();
        years();
        finish();
    }
}
