import java.util.function.ToIntFunction;

/** The edges of the TAPE and of a DAIRY's text: promises 2 to 4, and what part I says of a DAIRY and its FAULTS. */
public final class DairyBoundariesTest extends Due {
    private static final String SIX = "dairy 6 0 10";
    private static final String TWO = "dairy 2 0 10";
    private static final String ROADS = ";road 0 1 1;road 0 2 1;road 0 3 1;road 0 4 1;road 0 5 1;road 1 2 1;road 1 3 1;road 1 4 1";
    private static final String FULL = SIX + ROADS + times(";hand 0 0 0", 5) + times(";jug 0 0", 4) + times(";heat 0 0 1", 4)
            + times(";want 0 0 0 1", 6);

    private static void tapeThatIsEmpty() {
        sentence("The TAPE has its first n bytes alone: n; NONE, and nothing happens, if it has not so many, or n is below 0.");
        TurningMilk m = new TurningMilk();
        due("count(15)", m.count(15), 0);
        due("end(0)", m.end(0), 0);
        nothingHappens(TurningMilk::new, "end(1)", t -> t.end(1), -1);
        nothingHappens(TurningMilk::new, "end(-1)", t -> t.end(-1), -1);
        sentence("0 .. the end (behind the last byte)");
        due("dairy()", m.dairy(), fault(0, 0));
        due("rule()", m.rule(), fault(0, 0));
        due("count(0)", m.count(0), 0);
        due("count(7)", m.count(7), 0);
    }

    private static TurningMilk withTape(int bytes) {
        TurningMilk m = new TurningMilk();
        say(m, (TWO + ";" + times(" ", 400)).substring(0, bytes));
        return m;
    }

    private static void tapeThatIsFull() {
        sentence("Twenty bytes come behind the TAPE: how many it has; NONE, and none comes, if it would have more than 400.");
        TurningMilk m = new TurningMilk();
        for (int i = 1; i <= 20; i++) {
            due("feed", m.feed(MIN, -1, 0, 1, MAX), 20 * i);
        }
        due("feed beyond 400", m.feed(0, 0, 0, 0, 0), -1);
        nothingHappens(() -> withTape(400), "feed at 400", t -> t.feed(1, 2, 3, 4, 5), -1);
        nothingHappens(() -> withTape(399), "feed at 399", t -> t.feed(1, 2, 3, 4, 5), -1);
        nothingHappens(() -> withTape(381), "feed at 381", t -> t.feed(1, 2, 3, 4, 5), -1);
        due("feed at 380", withTape(380).feed(1, 2, 3, 4, 5), 400);
        sentence("The TAPE has its first n bytes alone: n; NONE, and nothing happens, if it has not so many, or n is below 0.");
        due("end(400)", m.end(400), 400);
        due("end(401)", m.end(401), -1);
        due("end(399)", m.end(399), 399);
        due("end(400)", m.end(400), -1);
        due("count(15)", m.count(15), 399);
        for (int n : new int[] {13, MAX, -1, MIN}) {
            nothingHappens(() -> withTape(12), "end(" + n + ")", t -> t.end(n), -1);
        }
        due("end(12)", withTape(12).end(12), 12);
        due("end(11)", withTape(12).end(11), 11);
        due("end(0)", withTape(12).end(0), 0);
    }

    private static void bytesOfANumber() {
        sentence("Twenty bytes come behind the TAPE, of each number the highest first");
        TurningMilk m = new TurningMilk();
        m.feed('d' << 24 | 'a' << 16 | 'i' << 8 | 'r', 'y' << 24 | ' ' << 16 | '3' << 8 | ' ', '4' << 24 | ' ' << 16 | '5' << 8 | '6',
                ';' << 24 | 'j' << 16 | 'u' << 8 | 'g', ' ' << 24 | '2' << 16 | ' ' << 8 | '7');
        due("dairy()", m.dairy(), 1);
        due("PLACES", m.count(0), 3);
        due("GROUND", m.count(1), 4);
        due("SOUR", m.count(2), 56);
        due("TURNED", m.jug(0, 2), 7);
        sentence("a byte .. that can't stand there");
        for (int sign = 0; sign < 256; sign++) {
            if (sign != 'd') {
                noDairy((char) sign + TWO.substring(1), sign == ' ' ? 1 : 0, 0);
            }
            if (sign != ' ' && sign != ';' && (sign < '0' || sign > '9')) {
                noDairy(TWO + (char) sign, 12, 0);
            }
        }
    }

    private static void bytesBehindTheEnd() {
        sentence("The TAPE has its first n bytes alone");
        String text = TWO + ";jug 1 95;hands";
        int[] ends = {0, 4, 5, 11, 12, 13, 20, 21, 22, 26, 27};
        int[] due = {fault(0, 0), fault(0, 0), fault(5, 0), fault(10, 1), 0, fault(13, 0), 1, 1, fault(22, 0), fault(26, 0), fault(22, 0)};
        for (int i = 0; i < ends.length; i++) {
            TurningMilk m = new TurningMilk();
            feed(m, text, 0);
            feed(m, text, 20);
            m.end(ends[i]);
            due("the first " + ends[i] + " of '" + text + "'", m.dairy(), due[i]);
        }
        sentence("The TAPE, which is empty then (nothing of a longer text is left behind a shorter one)");
        TurningMilk m = new TurningMilk();
        due("40 bytes", dairy(m, "dairy 2 0 10;jug 0 99999999999;jug 0 999"), fault(19, 1));
        due("20 bytes", dairy(m, "dairy 2 0 10;jug 1 9"), 1);
        due("TURNED", m.jug(0, 2), 9);
        due("40 bytes", dairy(m, "dairy 2 0 10;       ;jug 0 99;jug 0 99 9"), fault(20, 0));
        due("20 bytes", dairy(m, "dairy 2 0 10;jug 1 8"), 1);
        due("20 bytes", dairy(m, "dairy 2 0 10;   want"), fault(20, 0));
    }

    private static void atMost400Bytes() {
        sentence("A DAIRY is a text of at most 400 bytes");
        isDairy(TWO + times(" ", 388), 0);
        isDairy(times(" ", 388) + TWO, 0);
        String jug = TWO + times(" ", 380) + ";jug 1 9";
        due("400 bytes", jug.length(), 400);
        isDairy(jug, 1);
        noDairy(TWO + times(" ", 387) + ";", 400, 0);
        noDairy(TWO + times(" ", 387) + "x", 399, 0);
        noDairy(times(" ", 400), 400, 0);
        noDairy(TWO + times(" ", 380) + ";jug 1  ", 400, 0);
    }

    /** The number is taken at its least and its most and refused, at its place, one beyond each. */
    private static void takes(String before, String behind, int least, int most, ToIntFunction<TurningMilk> read) {
        for (int n : new int[] {least, most}) {
            due(before + n + behind, read.applyAsInt(of(before + n + behind)), n);
        }
        noDairy(before + (most + 1) + behind, before.length(), 1);
        if (least > 0) {
            noDairy(before + (least - 1) + behind, before.length(), 1);
        }
        noDairy(before + "-1" + behind, before.length(), 0);
        noDairy(before + "99999" + behind, before.length(), 1);
        noDairy(before + "100000" + behind, before.length(), 1);
        noDairy(before + "00000" + least + behind, before.length(), 1);
        noDairy(before + "4294967298" + behind, before.length(), 1);
        noDairy(before + "x" + behind, before.length(), 0);
        noDairy(before, before.length(), 0);
    }

    private static void numbersOfDairy() {
        sentence("PLACES 2 to 6");
        takes("dairy ", " 0 10", 2, 6, m -> m.count(0));
        sentence("GROUND 0 to 9");
        takes("dairy 2 ", " 10", 0, 9, m -> m.count(1));
        sentence("SOUR 10 to 99");
        takes("dairy 2 0 ", "", 10, 99, m -> m.count(2));
    }

    private static void numbersOfRoad() {
        sentence("road NUMBER NUMBER NUMBER (two PLACES between which none was told; its HOURS 1 to 5)");
        takes(SIX + ";road ", " 1 2", 0, 5, m -> m.way(0, 1, 0) == 2 ? 0 : m.way(5, 1, 0) == 2 ? 5 : -9);
        takes(SIX + ";road 1 ", " 2", 0, 5, m -> m.way(0, 1, 0) == 2 ? 0 : m.way(5, 1, 0) == 2 ? 5 : -9);
        takes(SIX + ";road 0 1 ", "", 1, 5, m -> m.way(1, 0, 0));
        noDairy(TWO + ";road 2 0 1", 18, 1);
        noDairy(TWO + ";road 0 2 1", 20, 1);
        sentence("of road the second PLACE, if it is the first, or if one is there already");
        noDairy(TWO + ";road 0 0 1", 20, 1);
        noDairy(TWO + ";road 1 1 9", 20, 1);
        noDairy(SIX + ";road 5 5 1", 20, 1);
        noDairy(TWO + ";road 0 1 1;road 0 1 1", 31, 1);
        noDairy(TWO + ";road 0 1 1;road 1 0 2", 31, 1);
        noDairy(SIX + ";road 5 4 1;road 0 1 1;road 4 5 1", 42, 1);
        noDairy(TWO + ";road 0 1 1;road 1  0", 32, 1);
        noDairy(TWO + ";road 0 1 1;road 2 0 1", 29, 1);
    }

    private static void numbersOfHandAndJug() {
        sentence("hand NUMBER NUMBER NUMBER (a PLACE; SPEED 0 to 20 ..; TIRES 0 to 5)");
        takes(SIX + ";hand ", " 7 3", 0, 5, m -> m.hand(0, 0));
        takes(TWO + ";hand ", " 7 3", 0, 1, m -> m.hand(0, 0));
        takes(TWO + ";hand 1 ", " 3", 0, 20, m -> m.hand(0, 4));
        takes(TWO + ";hand 1 7 ", "", 0, 5, m -> m.hand(0, 5));
        sentence("jug NUMBER NUMBER (a PLACE; how far it has TURNED, 0 to 99)");
        takes(SIX + ";jug ", " 4", 0, 5, m -> m.jug(0, 0));
        takes(TWO + ";jug ", " 4", 0, 1, m -> m.jug(0, 0));
        takes(TWO + ";jug 1 ", "", 0, 99, m -> m.jug(0, 2));
    }

    /** How many of the first hundred HOURS are hot. */
    private static int hotHours(TurningMilk m) {
        int hot = 0;
        for (int hour = 0; hour < 101; hour++) {
            hot += m.count(10);
            m.hour();
        }
        return hot;
    }

    private static void numbersOfHeat() {
        sentence("heat NUMBER NUMBER NUMBER (the first, the last HOUR, 0 to 99, not below the first; 1 to 5, so much more in each");
        takes(TWO + ";heat ", " 99 1", 0, 99, m -> 100 - hotHours(m));
        takes(TWO + ";heat 0 ", " 1", 0, 99, m -> hotHours(m) - 1);
        takes(TWO + ";heat 50 ", " 1", 50, 99, m -> hotHours(m) + 49);
        takes(TWO + ";heat 99 ", " 1", 99, 99, m -> 98 + hotHours(m));
        takes(TWO + ";heat 0 0 ", "", 1, 5, m -> m.count(10));
        noDairy(TWO + ";heat 5 4 1", 20, 1);
        noDairy(TWO + ";heat 99 98 1", 21, 1);
        sentence("of several all together");
        TurningMilk m = of(TWO + times(";heat 1 2 5", 3) + ";heat 2 3 4");
        int[] due = {0, 15, 19, 4, 0};
        for (int hour = 0; hour < 5; hour++) {
            due("HEAT in " + hour, m.count(10), due[hour]);
            m.hour();
        }
    }

    private static void numbersOfWant() {
        sentence("want .. (a PLACE; the least, the most TURNED, 0 to 99, the latter not below the former; PAY 1 to 50)");
        takes(SIX + ";want ", " 1 2 3", 0, 5, m -> m.want(0, 0));
        takes(TWO + ";want ", " 1 2 3", 0, 1, m -> m.want(0, 0));
        takes(TWO + ";want 1 ", " 99 3", 0, 99, m -> m.want(0, 1));
        takes(TWO + ";want 1 0 ", " 3", 0, 99, m -> m.want(0, 2));
        takes(TWO + ";want 1 50 ", " 3", 50, 99, m -> m.want(0, 2));
        takes(TWO + ";want 1 0 9 ", "", 1, 50, m -> m.want(0, 3));
        noDairy(TWO + ";want 0 5 4 1", 22, 1);
        noDairy(TWO + ";want 0 99 98 1", 23, 1);
    }

    private static void howManyOfEach() {
        sentence("ROADS 0 to 7, HANDS 0 to 4, JUGS 0 to 3, HEATS 0 to 3, WANTS 0 to 5, in the order told");
        TurningMilk m = of(FULL);
        int[] due = {6, 0, 10, 8, 5, 4, 6};
        for (int what = 0; what < 7; what++) {
            due("count(" + what + ")", m.count(what), due[what]);
        }
        due("HEAT of four", m.count(10), 4);
        TurningMilk few = of(TWO);
        for (int what = 3; what < 7; what++) {
            due("count(" + what + ")", few.count(what), 0);
        }
        TurningMilk row = of("dairy 5 0 10;jug 0 9;hand 0 3 4;jug 3 6;want 1 2 3 4;hand 2 1 0;want 4 5 6 7;jug 2 0");
        due("the first JUG", row.jug(0, 2), 9);
        due("the second JUG", row.jug(1, 0), 3);
        due("the last JUG", row.jug(2, 0), 2);
        due("the second HAND", row.hand(1, 0), 2);
        due("the second WANT", row.want(1, 3), 7);
        sentence("4 .. a ninth ROAD, a sixth HAND, a fifth JUG or HEAT, a seventh WANT (at its first byte)");
        noDairy(SIX + ROADS + ";road 1 5 1", 12 + ROADS.length() + 1, 4);
        noDairy(SIX + ROADS + "; road 9", 12 + ROADS.length() + 2, 4);
        noDairy(SIX + ROADS + ";roads", 12 + ROADS.length() + 1, 0);
        noDairy(TWO + times(";hand 0 0 0", 5) + ";hand 0 0 0", 12 + 55 + 1, 4);
        noDairy(TWO + times(";hand 0 0 0", 5) + ";  hand", 12 + 55 + 3, 4);
        noDairy(TWO + times(";jug 0 0", 4) + ";jug 0 0", 12 + 32 + 1, 4);
        noDairy(TWO + times(";heat 0 0 1", 4) + ";heat x", 12 + 44 + 1, 4);
        noDairy(TWO + times(";want 0 0 0 1", 6) + ";want 9 9", 12 + 78 + 1, 4);
    }

    /** By what each has at most there are 28 CLAUSES at most, so a 41st never is the first FAULT. */
    private static void fortyClauses() {
        sentence("CLAUSE { ; CLAUSE }, 40 at most");
        isDairy(FULL, 4);
        String[] more = {"dairy 2 0 10", "road 1 5 1", "hand 0 0 0", "jug 0 0", "heat 0 0 1", "want 0 0 0 1"};
        for (String clause : more) {
            noDairy(FULL + ";" + clause, FULL.length() + 1, 4);
        }
        noDairy(TWO + times(";jug 0 0", 40), 12 + 4 * 8 + 1, 4);
        noDairy(FULL + ";x", FULL.length() + 1, 0);
        noDairy(FULL + ";", FULL.length() + 1, 0);
    }

    private static void firstClause() {
        sentence("dairy .. once, the first CLAUSE; 4 .. a second dairy, another CLAUSE ahead of it");
        for (String other : new String[] {"road 0 1 1", "hand 0 0 0", "jug 0 0", "heat 0 0 1", "want 0 0 0 1"}) {
            noDairy(other + ";" + TWO, 0, 4);
            noDairy("   " + other, 3, 4);
        }
        noDairy("road", 0, 4);
        noDairy("roads", 0, 0);
        noDairy("turn 1", 0, 0);
        noDairy(TWO + ";" + TWO, 13, 4);
        noDairy(TWO + "; dairy", 14, 4);
        noDairy(TWO + ";dairys", 13, 0);
        noDairy(TWO + ";jug 0 0;dairy 2 0 10", 21, 4);
    }

    private static void bytesAndWords() {
        sentence("0 a byte or WORD that can't stand there, or the end (behind the last byte)");
        for (String word : new String[] {"dair", "dairyx", "Dairy", "d", "da iry", "5", ";", "dairy dairy"}) {
            noDairy(word + " 2 0 10", word.equals("dairy dairy") ? 6 : 0, 0);
        }
        for (String word : new String[] {"roa", "roadd", "han", "hands", "ju", "jugs", "hea", "heats", "wan", "wants", "if", "turn"}) {
            noDairy(TWO + ";" + word + " 0 1 1 1", 13, 0);
        }
        noDairy(TWO + ";roadX 0 1 1", 17, 0);
        noDairy(TWO + ";;", 13, 0);
        noDairy(TWO + ";", 13, 0);
        noDairy(TWO + " ; ", 15, 0);
        noDairy(TWO + " 5", 13, 0);
        noDairy(TWO + " 123456", 13, 0);
        noDairy(TWO + ";jug 0 1 1", 21, 0);
        noDairy(TWO + " jug 0 1", 13, 0);
        noDairy("dairy 2;jug 0 1", 7, 0);
        noDairy("dairy 2 0", 9, 0);
        noDairy("dairy 2 0  ", 11, 0);
        noDairy("dairy", 5, 0);
        noDairy("dairy,2 0 10", 5, 0);
        noDairy("dairy 2,0 10", 7, 0);
        noDairy("dairy 2 0 10\t", 12, 0);
        noDairy("dairy\t2 0 10", 5, 0);
        sentence("FAULTS, the first along the text");
        noDairy("dairy 7 99 9;x", 6, 1);
        noDairy("dairy 2 99 9", 8, 1);
        noDairy("dairy 2 0 10;jug 9 100;road 0 0", 17, 1);
        sentence("Blanks (32) stand between as one likes");
        isDairy("dairy2 0 10", 0);
        isDairy("   dairy   2   0   10   ;   jug   1   9   ", 1);
        isDairy("dairy2 0 10;jug1 9;jug0 9", 2);
        sentence("NUMBER (1 to 5 digits, as far as digits go on)");
        isDairy("dairy 00002 00000 00010;jug 00001 00099", 1);
        noDairy("dairy 000002 0 10", 6, 1);
        noDairy("dairy 20 10", 6, 1);
    }

    private static TurningMilk inUse() {
        TurningMilk m = new TurningMilk();
        m.image(2);
        dairy(m, "dairy 3 2 20;road 0 1 2;hand 0 4 4;hand 1 0 2;jug 0 1;jug 1 8;heat 1 2 2;want 1 8 14 9;want 0 0 9 5");
        rule(m, "turn speed + heat");
        m.force(0);
        m.seed(77);
        m.test(2, 3, 0, 18);
        m.take(0, 0);
        m.hour();
        m.image(1);
        m.go(0, 1);
        m.hour();
        m.meet(0);
        return m;
    }

    private static void dairyWithAFault() {
        sentence("-2 - its FAULT, and all stays");
        nothingHappens(DairyBoundariesTest::inUse, "dairy of ''", m -> dairy(m, ""), fault(0, 0));
        nothingHappens(DairyBoundariesTest::inUse, "dairy", m -> dairy(m, "dairy 6 9 99;hand 5 5 5;jug 5 50;want 0 1 2"), fault(43, 0));
        nothingHappens(DairyBoundariesTest::inUse, "dairy", m -> dairy(m, TWO + ";jug 2 0"), fault(17, 1));
        nothingHappens(DairyBoundariesTest::inUse, "dairy", m -> dairy(m, TWO + ";jug 1 0;" + TWO), fault(21, 4));
        sentence("The TAPE, which is empty then, is the DAIRY");
        TurningMilk m = inUse();
        due("a FAULT", dairy(m, "cow"), fault(0, 0));
        due("the TAPE", m.count(15), 0);
        due("the next text", dairy(m, TWO), 0);
        due("the TAPE", m.count(15), 0);
        due("no text", m.dairy(), fault(0, 0));
        due("PLACES stay", m.count(0), 2);
    }

    private static void dairyInPlaceOfAnother() {
        sentence("in place of the one there was (HOUR 0, no TESTS, nothing to be UNDONE; the RULE IN FORCE and x stay)");
        TurningMilk m = inUse();
        due("ahead of it", m.count(9), 2);
        due("ahead of it", m.count(11), 9);
        due("ahead of it", m.count(13), 5);
        due("how many JUGS", dairy(m, "dairy 4 3 30;hand 2 1 0;jug 2 0;jug 1 5;jug 2 50;want 1 0 9 2"), 3);
        int[] due = {4, 3, 30, 0, 1, 3, 1, 1, 0, 0, 0, 0, 0, 0, 77, 0};
        for (int what = 0; what < 16; what++) {
            due("count(" + what + ")", m.count(what), due[what]);
        }
        due("undo()", m.undo(), -1);
        due("no HAND is TIRED", m.hand(0, 2), 0);
        due("HAND 1", m.hand(1, 0), -1);
        due("no ROAD", m.way(0, 1, 0), -2);
        due("no HEAT", m.ahead(0, 3, 0), 9);
        due("not met", m.want(0, 4), -1);
        for (int jug = 0; jug < 3; jug++) {
            due("all JUGS stand", m.jug(jug, 0), jug == 1 ? 1 : 2);
            due("all JUGS stand", m.jug(jug, 1), -1);
        }
        due("IMAGES stay", m.back(1), 1);
        due("IMAGES stay", m.count(0), 3);
        due("IMAGES stay", m.back(2), 0);
        due("no DAIRY", m.count(0), 0);
        due("no DAIRY", m.hour(), -1);
        due("no RULE IN FORCE", m.count(8), -1);
    }

    private static void nothingIsLeft() {
        sentence("in place of the one there was (nothing is left of it, nor of one with a FAULT)");
        String many = SIX + ROADS + times(";hand 0 20 5", 5) + times(";jug 0 99", 4) + times(";heat 0 99 5", 4) + times(";want 0 0 99 50", 6);
        for (String ahead : new String[] {many, many + ";"}) {
            TurningMilk m = new TurningMilk();
            dairy(m, ahead);
            m.take(0, 1);
            m.match(0);
            m.rows(12, 240, -1);
            m.relay(0, 5, 0, 999, 0);
            m.rest(0, 10, 5, 0);
            m.meet(0);
            m.go(1, 1);
            m.hour();
            due("dairy()", dairy(m, "dairy 3 1 10;hand 0 2 0;jug 0 5;want 0 0 9 4"), 1);
            due("YEARS", m.years(1, 2, 0), 0);
            due("YEARS", m.years(3, 4, 0), m.years(3, 4, 1) > 3 * 10 ? 3 : 0);
            due("ICE", m.ice(60), 0);
            due("AHEAD", m.ahead(0, 4, 0), 9);
            due("WAY", m.way(0, 1, 0), -2);
            due("MATCH", m.match(0), 4);
            due("ROWS", m.rows(2, 4, 20), 1);
            due("WHO", m.who(2), 1);
            due("HAND 0", m.hand(0, 1) + m.hand(0, 2) + m.hand(0, 3), 0);
            due("HAND 1", m.hand(1, 0), -1);
            due("JUG 1", m.jug(1, 0), -2);
            due("WANT 1", m.want(1, 0), -2);
            due("an HOUR", m.hour(), 0);
        }
    }

    public static void main(String[] args) {
        tapeThatIsEmpty();
        tapeThatIsFull();
        bytesOfANumber();
        bytesBehindTheEnd();
        atMost400Bytes();
        numbersOfDairy();
        numbersOfRoad();
        numbersOfHandAndJug();
        numbersOfHeat();
        numbersOfWant();
        howManyOfEach();
        fortyClauses();
        firstClause();
        bytesAndWords();
        dairyWithAFault();
        dairyInPlaceOfAnother();
        nothingIsLeft();
        finish();
    }
}
