/** The edges of HOURS and ACTS: promises 1 and 7 to 16, and part II. */
public final class ActsBoundariesTest extends Due {
    private static void newObject() {
        sentence("No DAIRY, no RULES, none IN FORCE.");
        TurningMilk m = new TurningMilk();
        for (int what = 0; what < 16; what++) {
            due("count(" + what + ")", m.count(what), what == 8 ? -1 : 0);
        }
        due("force(0)", m.force(0), -2);
        due("hour()", m.hour(), -1);
        due("who(0)", m.who(0), -1);
        for (int k = 0; k < 4; k++) {
            due("back(" + k + ")", m.back(k), -1);
        }
    }

    private static void busyAsTold() {
        sentence("(what the refused calls below begin with)");
        TurningMilk m = busy();
        int[] counts = {4, 1, 20, 3, 3, 4, 3, 1, 0, 2, 2, 7, 1, 6, 77, 12};
        for (int what = 0; what < 16; what++) {
            due("count(" + what + ")", m.count(what), counts[what]);
        }
        int[][] hands = {{0, 0, 8, 1, 3, 4}, {1, 0, 0, 0, 0, 2}, {1, 1, 0, 8, 6, 0}};
        int[][] jugs = {{-1, 0, 10, 0, 0}, {1, -1, 14, 0, 0}, {-1, -1, 8, 0, 1}, {-1, 2, 15, 0, 0}};
        int[][] wants = {{2, 8, 14, 9, -1, 0}, {1, 0, 12, 5, -1, 0}, {0, 3, 9, 7, 2, 0}};
        for (int i = 0; i < 4; i++) {
            for (int what = 0; what < 6; what++) {
                due("hand(" + i + ", " + what + ")", m.hand(i, what), i < 3 ? hands[i][what] : -1);
                due("jug(" + i + ", " + what + ")", m.jug(i, what), what < 5 ? jugs[i][what] : -2);
                due("want(" + i + ", " + what + ")", m.want(i, what), i < 3 ? wants[i][what] : -2);
            }
        }
    }

    private static void handJugWant() {
        int[] beyond = {-1, -2, MIN, MAX};
        sentence("Of a HAND what 0: .., 5: TIRES. NONE without these.");
        for (int n : beyond) {
            nothingHappens(Due::busy, "hand(" + n + ", 0)", m -> m.hand(n, 0), -1);
            nothingHappens(Due::busy, "hand(0, " + n + ")", m -> m.hand(0, n), -1);
        }
        due("hand(3, 0)", busy().hand(3, 0), -1);
        due("hand(2, 6)", busy().hand(2, 6), -1);
        due("hand(0, 0)", bare().hand(0, 0), -1);
        sentence("Of a JUG what 0: .., 4: 1 if it is gone, else 0. -2 without these.");
        for (int n : beyond) {
            nothingHappens(Due::busy, "jug(" + n + ", 0)", m -> m.jug(n, 0), -2);
            nothingHappens(Due::busy, "jug(0, " + n + ")", m -> m.jug(0, n), -2);
        }
        due("jug(4, 0)", busy().jug(4, 0), -2);
        due("jug(3, 5)", busy().jug(3, 5), -2);
        due("jug(0, 0)", bare().jug(0, 0), -2);
        sentence("Of a WANT what 0: PLACE, .., 5: 1 if it can be met now, else 0. -2 without these.");
        for (int n : beyond) {
            nothingHappens(Due::busy, "want(" + n + ", 0)", m -> m.want(n, 0), -2);
            nothingHappens(Due::busy, "want(0, " + n + ")", m -> m.want(0, n), -2);
        }
        due("want(3, 0)", busy().want(3, 0), -2);
        due("want(2, 6)", busy().want(2, 6), -2);
        due("want(0, 0)", bare().want(0, 0), -2);
        int[] can = {0, 1, 1, 0};
        for (int i = 0; i < 4; i++) {
            due("can be met", of("dairy 2 0 10;jug 1 " + (4 + i) + ";want 1 5 6 1").want(0, 5), can[i]);
        }
    }

    private static void sour() {
        sentence("It is SOUR, if it has TURNED SOUR, or more; an HOUR: how many JUGS become SOUR in it");
        int[] isSour = {0, 1, 1};
        for (int i = 0; i < 3; i++) {
            due("jug(0, 3)", of("dairy 2 0 50;jug 0 " + (49 + i)).jug(0, 3), isSour[i]);
        }
        TurningMilk m = of("dairy 2 2 10;jug 0 9;jug 0 8;jug 0 7;jug 0 10");
        due("two become so", m.hour(), 2);
        due("one becomes so", m.hour(), 1);
        due("none becomes so", m.hour(), 0);
        TurningMilk all = of("dairy 2 9 10;jug 0 9;jug 0 8;jug 0 7;jug 0 1;want 0 7 7 1");
        all.meet(0);
        due("a gone one does not", all.hour(), 3);
        due("no JUGS", of("dairy 2 9 10").hour(), 0);
        due("none turns", of("dairy 2 0 10;jug 0 9").hour(), 0);
        TurningMilk jump = of("dairy 2 0 99;hand 0 0 0;jug 0 98;jug 0 49", "turn 50");
        jump.take(0, 0);
        jump.take(0, 1);
        due("both", jump.hour(), 2);
    }

    private static void hourRefused() {
        sentence("An HOUR ..; NONE, and nothing happens, without a DAIRY, or at HOUR 999.");
        nothingHappens(TurningMilk::new, "hour()", TurningMilk::hour, -1);
        nothingHappens(Due::bare, "hour()", TurningMilk::hour, -1);
        sentence("HOUR is 1 more (999 at most)");
        // behind 512 calls answers are free; here they are the same as ahead of it
        TurningMilk m = of("dairy 2 0 10;hand 0 1 0;jug 0 0;want 0 0 0 1");
        hours(m, 997);
        m.take(0, 0);
        due("HOUR", m.count(9), 997);
        due("hour()", m.hour(), 0);
        due("hour()", m.hour(), 0);
        due("HOUR", m.count(9), 999);
        due("TURNED", m.jug(0, 2), 2);
        due("ACTS", m.count(13), 20);
        due("hour() at 999", m.hour(), -1);
        due("HOUR", m.count(9), 999);
        due("TURNED", m.jug(0, 2), 2);
        due("other ACTS are", m.put(0, 0), 0);
        due("undo()", m.undo(), 19);
        due("HOUR", m.count(9), 999);
        due("undo()", m.undo(), 18);
        due("HOUR", m.count(9), 998);
    }

    private static void turnedAtMost() {
        sentence("each JUG TURNS more: one that stands by GROUND and HEAT; .. 999 at most");
        String hot = "dairy 2 9 10;jug 0 99;hand 0 20 5" + times(";heat 0 99 5", 4);
        TurningMilk m = of(hot);
        hours(m, 31);
        due("TURNED", m.jug(0, 2), 99 + 31 * 29);
        m.hour();
        due("TURNED at most", m.jug(0, 2), 999);
        m.hour();
        due("TURNED at most", m.jug(0, 2), 999);
        for (int rest = 0; rest < 3; rest++) {
            TurningMilk held = of("dairy 2 0 10;jug 0 " + (48 + rest) + ";hand 0 0 0", "turn 50");
            held.take(0, 0);
            hours(held, 18);
            due("held", held.jug(0, 2), 948 + rest);
            held.hour();
            due("held at most", held.jug(0, 2), Math.min(999, 998 + rest));
            held.hour();
            due("held at most", held.jug(0, 2), 999);
        }
        sentence("without a RULE by SPEED, a quarter of TIRED, downwards, and HEAT");
        int[] more = {0, 0, 0, 0, 1, 1, 1, 1, 2};
        TurningMilk one = of("dairy 2 0 10;jug 0 0;hand 0 3 1;heat 2 2 5");
        one.take(0, 0);
        for (int i = 0; i < 9; i++) {
            int was = one.jug(0, 2);
            one.hour();
            due("TIRED " + i, one.jug(0, 2) - was, 3 + more[i] + (i == 2 ? 5 : 0));
        }
        TurningMilk most = of(hot);
        most.take(0, 0);
        hours(most, 20);
        int was = most.jug(0, 2);
        due("TIRED", most.hand(0, 2), 99);
        due("the most of all", Math.min(999, was + 20 + 24 + 20), most.ahead(0, 1, 0));
    }

    private static void tired() {
        sentence("each HAND that holds a JUG is TIRED by TIRES more (99 at most), another one by 1 less (0 at least)");
        TurningMilk m = of("dairy 2 0 10;hand 0 0 3;hand 0 0 5;hand 0 0 0;hand 0 0 5;jug 0 0;jug 0 0;jug 0 0;jug 0 0");
        m.take(0, 0);
        m.take(1, 1);
        m.take(1, 3);
        m.take(2, 2);
        hours(m, 19);
        due("5 each", m.hand(1, 2), 95);
        m.hour();
        due("at most", m.hand(1, 2), 99);
        hours(m, 12);
        due("3 each", m.hand(0, 2), 96);
        m.hour();
        due("reached", m.hand(0, 2), 99);
        m.hour();
        due("at most", m.hand(0, 2), 99);
        due("at most", m.hand(1, 2), 99);
        due("0 each", m.hand(2, 2), 0);
        due("0 at least", m.hand(3, 2), 0);
        m.put(1, 1);
        m.hour();
        due("it holds one yet", m.hand(1, 2), 99);
        m.put(1, 3);
        m.hour();
        due("1 less", m.hand(1, 2), 98);
        TurningMilk one = of("dairy 2 0 10;hand 0 0 1;jug 0 0");
        one.take(0, 0);
        one.hour();
        one.put(0, 0);
        for (int i = 0; i < 2; i++) {
            one.hour();
            due("0 at least", one.hand(0, 2), 0);
        }
    }

    private static void take() {
        sentence("TAKE (a HAND at a PLACE takes a JUG that stands there): JUGS it holds then, as bits; NONE, and nothing happens");
        int[][] calls = {{-1, 1}, {3, 1}, {MIN, 1}, {MAX, 1}, {1, -1}, {1, 4}, {1, MIN}, {1, MAX}, {0, 1}, {1, 0}, {0, 0}, {0, 2}, {2, 1},
            {2, 3}, {1, 2}};
        for (int[] c : calls) {
            nothingHappens(Due::busy, "take(" + c[0] + ", " + c[1] + ")", m -> m.take(c[0], c[1]), -1);
        }
        nothingHappens(Due::bare, "take(0, 0)", m -> m.take(0, 0), -1);
        due("take(1, 1)", busy().take(1, 1), 2);
        sentence("it holds JUGS, 2 at most");
        TurningMilk m = threeJugs();
        due("the second", m.take(0, 3), 9);
        nothingHappens(() -> twoOfThree(), "a third", t -> t.take(0, 1), -1);
        due("another HAND", m.take(1, 1), 2);
        m.put(0, 0);
        due("in its place", m.take(0, 2), 12);
    }

    private static TurningMilk threeJugs() {
        TurningMilk m = of("dairy 2 0 10;road 0 1 1;hand 0 0 0;hand 0 0 0;hand 1 0 0;jug 0 0;jug 0 0;jug 0 0;jug 0 0");
        m.take(0, 0);
        return m;
    }

    private static TurningMilk twoOfThree() {
        TurningMilk m = threeJugs();
        m.take(0, 3);
        return m;
    }

    private static void put() {
        sentence("PUT (a HAND at a PLACE puts a JUG down that it holds): the PLACE; NONE, and nothing happens, without these.");
        int[][] calls = {{-1, 0}, {3, 0}, {MIN, 0}, {MAX, 0}, {0, -1}, {0, 4}, {0, MIN}, {0, MAX}, {1, 0}, {0, 1}, {1, 1}, {0, 2}, {2, 3},
            {0, 3}, {-1, 1}, {-1, 2}};
        for (int[] c : calls) {
            nothingHappens(Due::busy, "put(" + c[0] + ", " + c[1] + ")", m -> m.put(c[0], c[1]), -1);
        }
        nothingHappens(Due::bare, "put(0, 0)", m -> m.put(0, 0), -1);
        TurningMilk m = busy();
        due("put(0, 0)", m.put(0, 0), 0);
        due("on a ROAD yet", m.put(2, 3), -1);
        m.hour();
        due("there", m.put(2, 3), 1);
        due("it stands", m.jug(3, 0), 1);
    }

    private static void handOn() {
        sentence("HAND ON (a JUG goes from the HAND that holds it to another one, both at the same PLACE): who held it; NONE ..");
        int[][] calls = {{-1, 1}, {4, 1}, {MIN, 1}, {MAX, 1}, {0, -1}, {0, 3}, {0, MIN}, {0, MAX}, {0, 0}, {0, 1}, {0, 2}, {1, 0}, {1, 1},
            {2, 0}, {3, 1}, {3, 0}, {3, 2}};
        for (int[] c : calls) {
            nothingHappens(Due::busy, "handOn(" + c[0] + ", " + c[1] + ")", m -> m.handOn(c[0], c[1]), -1);
        }
        nothingHappens(Due::bare, "handOn(0, 0)", m -> m.handOn(0, 0), -1);
        TurningMilk m = busy();
        due("to one on the ROAD there", m.handOn(3, 1), -1);
        m.hour();
        due("there", m.handOn(3, 1), 2);
        due("it holds it", m.hand(1, 3), 8);
        sentence("it holds JUGS, 2 at most");
        TurningMilk two = twoOfThree();
        two.take(1, 1);
        nothingHappens(() -> full(), "handOn(1, 0)", t -> t.handOn(1, 0), -1);
        due("from two to one", two.handOn(3, 1), 0);
        due("it holds two", two.hand(1, 3), 10);
        due("from one to two", two.handOn(0, 1), -1);
    }

    private static TurningMilk full() {
        TurningMilk m = twoOfThree();
        m.take(1, 1);
        return m;
    }

    private static void bothOnTheSameRoad() {
        sentence("both at the same PLACE");
        TurningMilk m = threeJugs();
        m.go(0, 1);
        m.go(1, 1);
        due("on the ROAD together", m.handOn(0, 1), -1);
        due("with one who waits there", m.handOn(0, 2), -1);
        m.hour();
        due("there together", m.handOn(0, 1), 0);
        due("with one who waited there", m.handOn(0, 2), 1);
    }

    private static void go() {
        sentence("GO (a HAND at a PLACE sets out by the ROAD to another one, with what it holds): HOURS to go; NONE, and nothing ..");
        int[][] calls = {{-1, 0}, {3, 0}, {MIN, 0}, {MAX, 0}, {0, -1}, {0, 4}, {0, MIN}, {0, MAX}, {0, 0}, {0, 3}, {1, 1}, {1, 3}, {2, 0},
            {2, 1}, {2, 2}};
        for (int[] c : calls) {
            nothingHappens(Due::busy, "go(" + c[0] + ", " + c[1] + ")", m -> m.go(c[0], c[1]), -1);
        }
        nothingHappens(Due::bare, "go(0, 0)", m -> m.go(0, 0), -1);
        sentence("each HAND on a ROAD has one HOUR less to go; at none it is at the PLACE");
        TurningMilk m = of("dairy 2 0 10;road 1 0 5;hand 0 0 0;hand 1 0 0;jug 0 0");
        m.take(0, 0);
        due("go(0, 1)", m.go(0, 1), 5);
        due("go(1, 0)", m.go(1, 0), 5);
        for (int left = 5; left > 0; left--) {
            due("goes", m.hand(0, 0), 1);
            due("to go", m.hand(0, 1), left);
            due("with it", m.hand(0, 3), 1);
            due("no PLACE", m.jug(0, 0), -1);
            due("go on a ROAD", m.go(0, 0), -1);
            m.hour();
        }
        due("there", m.hand(0, 1), 0);
        due("there", m.put(0, 0), 1);
        due("and back", m.go(0, 0), 5);
        TurningMilk near = of("dairy 2 0 10;road 1 0 1;hand 0 0 0");
        due("go(0, 1)", near.go(0, 1), 1);
        near.hour();
        due("and back at once", near.go(0, 0), 1);
    }

    private static void meet() {
        sentence("MEET (a WANT not met yet is, if a JUG stands at its PLACE that has TURNED as far as told): the JUG; NONE, and ..");
        for (int want : new int[] {-1, 3, MIN, MAX, 0, 1, 2}) {
            nothingHappens(Due::busy, "meet(" + want + ")", m -> m.meet(want), -1);
        }
        nothingHappens(Due::bare, "meet(0)", m -> m.meet(0), -1);
        int[] due = {-1, 0, 0, -1};
        for (int i = 0; i < 4; i++) {
            due("TURNED " + (4 + i), of("dairy 2 0 10;jug 1 " + (4 + i) + ";want 1 5 6 1").meet(0), due[i]);
        }
        due("elsewhere", of("dairy 2 0 10;jug 0 5;want 1 5 6 1").meet(0), -1);
        due("no JUGS", of("dairy 2 0 10;want 1 5 6 1").meet(0), -1);
        sentence("its PAY is earned; that JUG, of several the first, is gone");
        TurningMilk m = of("dairy 2 0 10;jug 0 5;jug 1 4;jug 1 6;jug 1 5;want 1 5 6 50;want 1 5 6 1;want 1 5 6 7");
        m.hour();
        due("the first", m.meet(0), 2);
        due("PAY", m.count(11), 50);
        due("gone", m.jug(2, 4), 1);
        due("not yet", m.jug(3, 4), 0);
        due("in this HOUR", m.want(0, 4), 1);
        m.hour();
        due("the next", m.meet(1), 3);
        due("PAY", m.count(11), 51);
        due("in this HOUR", m.want(1, 4), 2);
        due("none is left", m.meet(2), -1);
        TurningMilk rich = of("dairy 2 0 10" + times(";jug 1 5", 4) + times(";want 1 5 6 50", 6));
        for (int want = 5; want >= 2; want--) {
            due("meet(" + want + ")", rich.meet(want), 5 - want);
        }
        due("the most PAY", rich.count(11), 200);
    }

    private static void undo() {
        sentence("The last ACT is UNDONE: how many more can be; NONE, and nothing happens: none can.");
        nothingHappens(TurningMilk::new, "undo()", TurningMilk::undo, -1);
        nothingHappens(Due::bare, "undo()", TurningMilk::undo, -1);
        nothingHappens(() -> of("dairy 2 0 10;hand 0 1 1;jug 0 0"), "undo()", TurningMilk::undo, -1);
        nothingHappens(ActsBoundariesTest::undone, "undo()", TurningMilk::undo, -1);
        alike("six times undo()", all(undone()), all(begun()));
        sentence("The last 20 can be UNDONE, the last first.");
        for (int acts : new int[] {19, 20, 21, 40, 45}) {
            TurningMilk m = of("dairy 2 0 10;hand 0 1 1;jug 0 0");
            m.take(0, 0);
            hours(m, acts - 1);
            int can = Math.min(20, acts);
            due(acts + " ACTS", m.count(13), can);
            for (int left = can - 1; left >= 0; left--) {
                due("undo()", m.undo(), left);
                due("HOUR", m.count(9), Math.max(0, acts - 1 - can + left));
            }
            due("undo()", m.undo(), -1);
            due("the TAKE is undone, if it is of the last 20", m.jug(0, 0), acts <= 20 ? 0 : -1);
            due("HOUR", m.count(9), acts - 1 - Math.min(can, acts - 1));
        }
        TurningMilk again = of("dairy 2 0 10");
        hours(again, 25);
        for (int i = 0; i < 5; i++) {
            again.undo();
        }
        hours(again, 3);
        due("18 and none", again.count(13), 18);
        hours(again, 3);
        due("20 at most", again.count(13), 20);
        due("undo()", again.undo(), 19);
        due("HOUR", again.count(9), 25);
    }

    private static TurningMilk begun() {
        TurningMilk m = busy();
        m.end(0);
        m.back(1);
        m.seed(77);
        m.test(2, 3, 0, 15);
        return m;
    }

    private static TurningMilk undone() {
        TurningMilk m = busy();
        m.end(0);
        for (int i = 5; i >= 0; i--) {
            due("undo()", m.undo(), i);
        }
        return m;
    }

    private static void undoOfEachAct() {
        sentence("ACTS: an HOUR; TAKE; PUT; HAND ON; GO; MEET");
        TurningMilk m = of("dairy 2 1 10;road 0 1 3;hand 0 1 2;hand 0 4 1;jug 0 0;want 0 1 1 8");
        String[] ahead = new String[6];
        for (int act = 0; act < 6; act++) {
            ahead[act] = brief(m);
            act(m, act);
            due("ACTS", m.count(13), act + 1);
        }
        for (int act = 5; act >= 0; act--) {
            due("undo()", m.undo(), act);
            alike("undo() of ACT " + act, brief(m), ahead[act]);
        }
        due("undo()", m.undo(), -1);
    }

    private static void act(TurningMilk m, int act) {
        switch (act) {
            case 0: due("take", m.take(0, 0), 1); break;
            case 1: due("handOn", m.handOn(0, 1), 0); break;
            case 2: due("put", m.put(1, 0), 0); break;
            case 3: due("hour", m.hour(), 0); break;
            case 4: due("meet", m.meet(0), 0); break;
            default: due("go", m.go(1, 1), 3); break;
        }
    }

    private static String brief(TurningMilk m) {
        StringBuilder told = new StringBuilder();
        for (int i = 0; i < 5; i++) {
            told.append(' ').append(m.hand(0, i)).append(' ').append(m.hand(1, i)).append(' ').append(m.jug(0, i));
        }
        return told.append(' ').append(m.want(0, 4)).append(' ').append(m.count(9)).append(' ').append(m.count(11)).toString();
    }

    private static void whatIsNoAct() {
        sentence("The last 20 can be UNDONE (of ACTS alone: x, TESTS, the RULE IN FORCE and IMAGES are none)");
        TurningMilk m = of("dairy 2 1 10;hand 0 1 2;jug 0 0");
        m.take(0, 0);
        m.seed(9);
        m.test(0, 1, 0, 1);
        rule(m, "turn 3");
        m.force(0);
        m.image(0);
        m.ahead(0, 9, 0);
        m.years(1, 1, 1);
        due("ACTS", m.count(13), 1);
        due("undo()", m.undo(), 0);
        due("x", m.count(14), 9);
        due("TESTS", m.count(12), 1);
        due("RULE", m.count(8), 0);
        due("the IMAGE has the ACT", m.back(0), 0);
        due("the IMAGE has the ACT", m.jug(0, 1), 0);
        due("nothing can be UNDONE then", m.undo(), -1);
    }

    public static void main(String[] args) {
        newObject();
        busyAsTold();
        handJugWant();
        sour();
        hourRefused();
        turnedAtMost();
        tired();
        take();
        put();
        handOn();
        bothOnTheSameRoad();
        go();
        meet();
        undo();
        undoOfEachAct();
        whatIsNoAct();
        finish();
    }
}
