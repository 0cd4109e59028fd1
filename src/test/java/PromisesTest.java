/** Each promise by answers that were worked out by hand from the document. */
public final class PromisesTest extends Due {
    private static final String FARM = "dairy 4 1 20;road 0 1 2;road 1 2 1;road 0 2 4;hand 0 3 4;hand 1 0 2;hand 0 6 0;"
            + "jug 0 2;jug 1 10;heat 1 2 2;want 2 8 14 9;want 1 0 12 5";

    private static TurningMilk farm() {
        return of(FARM);
    }

    private static void promise1() {
        TurningMilk m = new TurningMilk();
        int[] none = {0, 0, 0, 0, 0, 0, 0, 0, -1, 0, 0, 0, 0, 0, 0, 0};
        for (int what = 0; what < 16; what++) {
            due("count(" + what + ")", m.count(what), none[what]);
        }
        due("hour()", m.hour(), -1);
        due("hand(0, 0)", m.hand(0, 0), -1);
        due("jug(0, 0)", m.jug(0, 0), -2);
        due("want(0, 0)", m.want(0, 0), -2);
        due("force(0)", m.force(0), -2);
        due("undo()", m.undo(), -1);
        due("back(0)", m.back(0), -1);
        due("NONE", TurningMilk.NONE, -1);
    }

    private static void promise2() {
        TurningMilk m = new TurningMilk();
        for (int i = 1; i <= 20; i++) {
            due("feed", m.feed(i, 0, -1, MIN, MAX), 20 * i);
        }
        due("feed when full", m.feed(0, 0, 0, 0, 0), -1);
        due("count(15)", m.count(15), 400);
        m.end(381);
        due("feed at 381", m.feed(0, 0, 0, 0, 0), -1);
        m.end(380);
        due("feed at 380", m.feed(0, 0, 0, 0, 0), 400);
        m.end(0);
        due("feed", m.feed(0x64616972, 0x79203220, 0x30203130, 0x20202020, 0x20202020), 20);
        due("the highest first", m.dairy(), 0);
    }

    private static void promise3() {
        TurningMilk m = new TurningMilk();
        due("end(0)", m.end(0), 0);
        due("end(1)", m.end(1), -1);
        m.feed(1, 2, 3, 4, 5);
        due("end(21)", m.end(21), -1);
        due("end(-1)", m.end(-1), -1);
        due("end(MIN)", m.end(MIN), -1);
        due("count(15)", m.count(15), 20);
        due("end(20)", m.end(20), 20);
        due("end(7)", m.end(7), 7);
        due("end(8)", m.end(8), -1);
        due("count(15)", m.count(15), 7);
    }

    private static void promise4() {
        TurningMilk m = new TurningMilk();
        due("dairy", dairy(m, FARM), 2);
        int[] told = {4, 1, 20, 3, 3, 2, 2, 0, -1, 0, 0, 0, 0, 0, 0, 0};
        for (int what = 0; what < 16; what++) {
            due("count(" + what + ")", m.count(what), told[what]);
        }
        m.seed(9);
        rule(m, "turn 1");
        m.force(0);
        m.hour();
        m.test(0, 1, 0, 1);
        due("a fault", dairy(m, "dairy 2 0"), fault(9, 0));
        due("the tape is empty", m.count(15), 0);
        due("all stays", m.count(0), 4);
        due("all stays", m.count(9), 1);
        due("all stays", m.count(12), 1);
        due("all stays", m.count(13), 1);
        due("another", dairy(m, "  dairy2 0 00010;jug 0 1 ;  "
                + "jug 1 99;jug 0 5;hand 1 20 5;jug 1 0"), 4);
        due("HOUR", m.count(9), 0);
        due("TESTS", m.count(12), 0);
        due("ACTS", m.count(13), 0);
        due("RULE", m.count(8), 0);
        due("x", m.count(14), 9);
        due("SOUR", m.count(2), 10);
        due("no ROADS of the old one", m.way(0, 1, 0), -2);
        due("trailing blanks", dairy(m, "dairy 6 9 99   "), 0);
        faultsOfDairies();
    }

    private static void faultsOfDairies() {
        noDairy("", 0, 0);
        noDairy("   ", 3, 0);
        noDairy("dairy", 5, 0);
        noDairy("dairys 2 0 10", 0, 0);
        noDairy("Dairy 2 0 10", 0, 0);
        noDairy("cow 2 0 10", 0, 0);
        noDairy("dairy 1 0 10", 6, 1);
        noDairy("dairy 7 0 10", 6, 1);
        noDairy("dairy 2 10 10", 8, 1);
        noDairy("dairy 2 0 9", 10, 1);
        noDairy("dairy 2 0 100", 10, 1);
        noDairy("dairy 2 0 000010", 10, 1);
        noDairy("dairy 2 0 10 1", 13, 0);
        noDairy("dairy 2 0 10;", 13, 0);
        noDairy("dairy 2 0 10 ;  ", 16, 0);
        noDairy("dairy 2 0 10\0", 12, 0);
        noDairy("dairy 2 0 10" + (char) 255, 12, 0);
        noDairy("dairy 2 0 10,", 12, 0);
        noDairy("dairy 2 -1 10", 8, 0);
        noDairy("road 0 1 1", 0, 4);
        noDairy(" want 0 1 1", 1, 4);
        noDairy("dairy 2 0 10; dairy 2 0 10", 14, 4);
        noDairy("dairy 2 0 10;roads 0 1 1", 13, 0);
        noDairy("dairy 2 0 10;road 2 1 1", 18, 1);
        noDairy("dairy 2 0 10;road 0 2 1", 20, 1);
        noDairy("dairy 2 0 10;road 0 0 1", 20, 1);
        noDairy("dairy 2 0 10;road 0 1 1;road 1 0 1", 31, 1);
        noDairy("dairy 2 0 10;road 0 1 0", 22, 1);
        noDairy("dairy 2 0 10;road 0 1 6", 22, 1);
        noDairy("dairy 2 0 10;road 0 1", 21, 0);
        noDairy("dairy 2 0 10;hand 2 0 0", 18, 1);
        noDairy("dairy 2 0 10;hand 0 21 0", 20, 1);
        noDairy("dairy 2 0 10;hand 0 0 6", 22, 1);
        noDairy("dairy 2 0 10;jug 2 0", 17, 1);
        noDairy("dairy 2 0 10;jug 0 100", 19, 1);
        noDairy("dairy 2 0 10;heat 100 100 1", 18, 1);
        noDairy("dairy 2 0 10;heat 0 100 1", 20, 1);
        noDairy("dairy 2 0 10;heat 5 4 1", 20, 1);
        noDairy("dairy 2 0 10;heat 0 0 0", 22, 1);
        noDairy("dairy 2 0 10;heat 0 0 6", 22, 1);
        noDairy("dairy 2 0 10;want 2 0 0 1", 18, 1);
        noDairy("dairy 2 0 10;want 0 5 4 1", 22, 1);
        noDairy("dairy 2 0 10;want 0 100 100 1", 20, 1);
        noDairy("dairy 2 0 10;want 0 0 0 0", 24, 1);
        noDairy("dairy 2 0 10;want 0 0 0 51", 24, 1);
        manyClauses();
    }

    private static void manyClauses() {
        String six = "dairy 6 0 10;road 0 1 1;road 0 2 1;road 0 3 1;road 0 4 1;road 0 5 1;road 1 2 1;road 1 3 1;road 1 4 1";
        due("eight roads", dairy(new TurningMilk(), six), 0);
        noDairy(six + ";road 1 5 1", six.length() + 1, 4);
        String two = "dairy 2 0 10";
        due("five hands", dairy(new TurningMilk(), two + times(";hand 0 0 0", 5)), 0);
        noDairy(two + times(";hand 0 0 0", 6), 12 + 5 * 11 + 1, 4);
        due("four jugs", dairy(new TurningMilk(), two + times(";jug 0 0", 4)), 4);
        noDairy(two + times(";jug 0 0", 4) + "; jug", 12 + 4 * 8 + 2, 4);
        due("four heats", dairy(new TurningMilk(), two + times(";heat 0 0 1", 4)), 0);
        noDairy(two + times(";heat 0 0 1", 5), 12 + 4 * 11 + 1, 4);
        due("six wants", dairy(new TurningMilk(), two + times(";want 0 0 0 1", 6)), 0);
        noDairy(two + times(";want 0 0 0 1", 7), 12 + 6 * 13 + 1, 4);
        noDairy(two + times(";want 0 0 0 1", 6) + ";wants", 12 + 6 * 13 + 1, 0);
    }

    private static void promise5() {
        TurningMilk m = new TurningMilk();
        for (int i = 0; i < 6; i++) {
            due("a fault", rule(m, "turn"), fault(4, 0));
            due("rule", rule(m, "turn " + i), i);
            due("the tape is empty", m.count(15), 0);
        }
        due("a seventh", rule(m, "turn 1"), -1);
        due("the tape stays", m.count(15), 6);
        due("RULES", m.count(7), 6);
        faultsOfRules();
        limitsOfRules();
    }

    private static void faultsOfRules() {
        noRule("", 0, 0);
        noRule("turn", 4, 0);
        noRule("turn ", 5, 0);
        noRule("turns 1", 0, 0);
        noRule("turnz 1", 0, 0);
        noRule("turna 1", 0, 0);
        noRule("turn x", 5, 0);
        noRule("turn tires", 5, 0);
        noRule("turn 1;", 7, 0);
        noRule("turn 1 if", 9, 0);
        noRule("turn 1 iff 1 = 1", 7, 0);
        noRule("turn 1 if held = 1]", 18, 0);
        noRule("turn 1 if [held = 1", 19, 0);
        noRule("turn 1 if [held = 1; turn 1", 19, 0);
        noRule("turn 1 if [held] = 1", 15, 0);
        noRule("turn 1 if [held = 1] + 2", 21, 0);
        noRule("turn 1 if [held = 1] = 2", 21, 0);
        noRule("turn [1]", 5, 0);
        noRule("turn 5 %", 8, 0);
        noRule("turn 5 - - 3", 9, 0);
        noRule("turn 5 6", 7, 0);
        noRule("turn 100000", 5, 1);
        noRule("turn 1 + 000001", 9, 1);
        noRule("turn 1 < 2", 7, 0);
        noRule("turn 1 if held", 14, 0);
        noRule("turn 1 if held < = 1", 17, 0);
        noRule("turn 1 if held =< 1", 16, 0);
        noRule("turn 1 if held = 1 = 1", 19, 0);
        noRule("turn 1 if held = 1 and", 22, 0);
        noRule("turn 1 if held = 1 if held = 1", 19, 0);
        noRule("turn 1 if not", 13, 0);
        noRule("turn 1 if held not = 1", 15, 0);
        noRule("turn not 1", 5, 0);
        noRule("dairy 2 0 10", 0, 0);
    }

    private static void limitsOfRules() {
        TurningMilk m = new TurningMilk();
        due("twelve clauses", rule(m, "turn 1" + times(";turn 1", 11)), 0);
        noRule("turn 1" + times(";turn 1", 12), 6 + 11 * 7 + 1, 4);
        noRule("turn 1" + times(";turn 1", 11) + ";turned", 6 + 11 * 7 + 1, 0);
        due("ten deep", rule(m, "turn 1 if " + times("not ", 10) + "1=1"), 1);
        noRule("turn 1 if " + times("not ", 11) + "1=1", 10 + 40, 2);
        due("ten deep", rule(m, "turn 1 if " + times("[", 10) + "1=1" + times("]", 10) + " and not 1=1"), 2);
        noRule("turn 1 if " + times("[", 11) + "1=1" + times("]", 11), 20, 2);
        noRule("turn 1 if " + times("not[", 5) + "1=1 or " + "not 1=1", 10 + 20 + 7, 2);
        due("sixty values", rule(m, "turn 1" + times("+1", 59)), 3);
        noRule("turn 1" + times("+1", 60), 6 + 2 * 59 + 1, 3);
        noRule("turn 1" + times("+1", 59) + "+", 6 + 2 * 59 + 1, 0);
        noRule("turn 1" + times("+1", 59) + "+x", 6 + 2 * 59 + 1, 0);
        noRule("turn 1" + times("+1", 59) + "+123456", 6 + 2 * 59 + 1, 1);
        due("sixty with a fact", rule(m, "turn 1" + times("+1", 56) + " if 1=1"), 4);
        noRule("turn 1" + times("+1", 58) + " if 1 = 1", 6 + 2 * 58 + 4 + 2, 3);
        noRule("turn 1" + times("+1", 57) + " if 1 = 1", 6 + 2 * 57 + 4 + 4, 3);
        due("sixty in all clauses", rule(m, "turn 1" + times("+1", 29) + ";turn 1" + times("+1", 29)), 5);
        noRule("turn 1" + times("+1", 29) + ";turn 1" + times("+1", 30), 6 + 58 + 7 + 58 + 1, 3);
    }

    private static void promise6() {
        TurningMilk m = new TurningMilk();
        due("force(-1)", m.force(-1), -1);
        due("force(0)", m.force(0), -2);
        rule(m, "turn 7");
        rule(m, "turn 0 - 7");
        due("force(0)", m.force(0), -1);
        due("force(1)", m.force(1), 0);
        due("force(2)", m.force(2), -2);
        due("force(-2)", m.force(-2), -2);
        due("count(8)", m.count(8), 1);
        due("force(-1)", m.force(-1), 1);
        due("count(8)", m.count(8), -1);
    }

    /** TURNED behind an HOUR in HAND 1 (SPEED 3) with two JUGS, by a RULE. */
    private static int turnsBy(String text) {
        TurningMilk m = of("dairy 3 1 20;road 0 1 2;hand 0 0 0;hand 0 3 5;jug 0 0;jug 0 2;jug 1 0;jug 0 20;heat 2 4 2;heat 3 9 1");
        due("rule of '" + text + "'", rule(m, text), 0);
        m.force(0);
        m.take(1, 1);
        m.take(1, 3);
        m.go(1, 1);
        m.hour();
        return m.jug(1, 2) - 2;
    }

    private static void words() {
        due("hand", turnsBy("turn hand"), 1);
        due("speed", turnsBy("turn speed"), 3);
        due("tired", turnsBy("turn tired"), 0);
        due("jug", turnsBy("turn jug"), 1);
        due("turned", turnsBy("turn turned"), 2);
        due("heat", turnsBy("turn heat"), 0);
        due("hour", turnsBy("turn hour + 1"), 1);
        due("road", turnsBy("turn road"), 1);
        due("held", turnsBy("turn held"), 2);
        due("sour", turnsBy("turn sour + 5"), 5);
        TurningMilk m = of("dairy 2 1 20;hand 0 3 5;jug 0 20;heat 2 4 2;heat 3 9 1");
        rule(m, "turn tired*10+heat+hour+road*30+sour if hour=3;turn 0");
        m.force(0);
        m.take(0, 0);
        for (int i = 0; i < 3; i++) {
            m.hour();
        }
        due("ahead(0, 1, 0)", m.ahead(0, 1, 0), 20 + 50);
        rule(m, "turn heat*7+hour+road*30+sour+tired");
        m.force(1);
        due("ahead(0, 1, 0)", m.ahead(0, 1, 0), 20 + 21 + 3 + 1 + 15);
    }

    private static void sums() {
        due("60", turnsBy("turn 60"), 50);
        due("below 0", turnsBy("turn 3 - 4"), 0);
        due("binding", turnsBy("turn 2 + 3 * 4"), 14);
        due("binding", turnsBy("turn 2 * 3 + 4"), 10);
        due("in a row", turnsBy("turn 10 - 3 - 2"), 5);
        due("in a row", turnsBy("turn 40 / 2 * 2"), 40);
        due("in a row", turnsBy("turn 40 % 7 * 2"), 10);
        due("towards 0", turnsBy("turn 10 + 0 - 7 / 2"), 7);
        due("by 0", turnsBy("turn 7 / 0 + 2"), 2);
        due("its rest by 0", turnsBy("turn 7 % 0 + 3"), 3);
        long big = 99999L * 99999L * 99999L * 99999L;
        due("goes round", turnsBy("turn 99999*99999*99999*99999 % 23 + 25"), (int) (big % 23 + 25));
        due("no blanks", turnsBy("turn1+2if hand=1"), 3);
        due("blanks", turnsBy("  turn  1 +2  if  hand  =  1  "), 3);
    }

    private static void tests() {
        due("first that holds", turnsBy("turn 1 if 1 = 2;turn 2 if 1 < 2;turn 3"), 2);
        due("none", turnsBy("turn 1 if 1 = 2"), 0);
        due("without a test", turnsBy("turn 1;turn 2"), 1);
        String[] signs = {"<", "<=", "=", ">=", ">"};
        int[][] holds = {{1, 0, 0}, {1, 1, 0}, {0, 1, 0}, {0, 1, 1}, {0, 0, 1}};
        for (int i = 0; i < 5; i++) {
            for (int a = 1; a <= 3; a++) {
                due(a + signs[i] + 2, turnsBy("turn 1 if " + a + signs[i] + "2"), holds[i][a - 1]);
            }
        }
        due("and binds closer", turnsBy("turn 1 if 1=1 or 1=1 and 1=2"), 1);
        due("brackets", turnsBy("turn 1 if [1=1 or 1=1] and 1=2"), 0);
        due("not of one fact", turnsBy("turn 1 if not 1=2 and 1=2"), 0);
        due("not of brackets", turnsBy("turn 1 if not [1=2 and 1=2]"), 1);
        due("not not", turnsBy("turn 1 if not not 1=1"), 1);
        due("sums on both sides", turnsBy("turn 1 if 2 + 3 * 2 = 9 - 1"), 1);
    }

    private static void promise7() {
        TurningMilk m = farm();
        m.take(2, 0);
        m.take(0, 0);
        m.go(2, 1);
        m.hour();
        due("hand(2, 0)", m.hand(2, 0), 1);
        due("hand(2, 1)", m.hand(2, 1), 1);
        due("hand(2, 2)", m.hand(2, 2), 0);
        due("hand(2, 3)", m.hand(2, 3), 1);
        due("hand(2, 4)", m.hand(2, 4), 6);
        due("hand(2, 5)", m.hand(2, 5), 0);
        due("hand(0, 0)", m.hand(0, 0), 0);
        due("hand(0, 1)", m.hand(0, 1), 0);
        due("hand(0, 3)", m.hand(0, 3), 0);
        due("hand(0, 5)", m.hand(0, 5), 4);
        due("hand(0, 6)", m.hand(0, 6), -1);
        due("hand(0, -1)", m.hand(0, -1), -1);
        due("hand(3, 0)", m.hand(3, 0), -1);
        due("hand(-1, 0)", m.hand(-1, 0), -1);
        due("hand(MIN, 0)", m.hand(MIN, 0), -1);
    }

    private static void promise8() {
        TurningMilk m = farm();
        due("jug(1, 0)", m.jug(1, 0), 1);
        due("jug(1, 1)", m.jug(1, 1), -1);
        due("jug(1, 2)", m.jug(1, 2), 10);
        due("jug(1, 3)", m.jug(1, 3), 0);
        due("jug(1, 4)", m.jug(1, 4), 0);
        m.take(1, 1);
        due("jug(1, 0)", m.jug(1, 0), -1);
        due("jug(1, 1)", m.jug(1, 1), 1);
        m.put(1, 1);
        m.meet(1);
        due("gone", m.jug(1, 0), -1);
        due("gone", m.jug(1, 1), -1);
        due("gone", m.jug(1, 2), 10);
        due("gone", m.jug(1, 4), 1);
        due("jug(1, 5)", m.jug(1, 5), -2);
        due("jug(1, -1)", m.jug(1, -1), -2);
        due("jug(2, 0)", m.jug(2, 0), -2);
        due("jug(-1, 0)", m.jug(-1, 0), -2);
        due("SOUR at it", of("dairy 2 0 10;jug 0 10").jug(0, 3), 1);
        due("not SOUR below", of("dairy 2 0 10;jug 0 9").jug(0, 3), 0);
    }

    private static void promise9() {
        TurningMilk m = farm();
        int[] told = {1, 0, 12, 5, -1, 1};
        for (int what = 0; what < 6; what++) {
            due("want(1, " + what + ")", m.want(1, what), told[what]);
        }
        due("want(0, 5)", m.want(0, 5), 0);
        m.take(1, 1);
        due("held", m.want(1, 5), 0);
        m.put(1, 1);
        m.hour();
        m.meet(1);
        due("met", m.want(1, 4), 1);
        due("met", m.want(1, 5), 0);
        due("want(1, 6)", m.want(1, 6), -2);
        due("want(1, -1)", m.want(1, -1), -2);
        due("want(2, 0)", m.want(2, 0), -2);
        due("want(-1, 0)", m.want(-1, 0), -2);
    }

    private static void promise10() {
        TurningMilk m = farm();
        m.take(0, 0);
        int[] turned0 = {5, 11, 18, 24, 31};
        int[] turned1 = {11, 14, 17, 18, 19};
        int[] soured = {0, 0, 0, 1, 0};
        for (int i = 0; i < 5; i++) {
            due("hour", m.hour(), soured[i]);
            due("held", m.jug(0, 2), turned0[i]);
            due("stands", m.jug(1, 2), turned1[i]);
            due("tired", m.hand(0, 2), 4 * (i + 1));
        }
        due("HOUR", m.count(9), 5);
        m.put(0, 0);
        due("the other", m.hour(), 1);
        due("rested", m.hand(0, 2), 19);
        due("idle", m.hand(1, 2), 0);
        due("stands", m.jug(0, 2), 32);
        words();
        sums();
        tests();
        ends();
    }

    private static void ends() {
        TurningMilk m = of("dairy 2 9 10;jug 0 99;jug 0 0;hand 0 20 5;heat 0 99 5;heat 0 99 5;heat 0 99 5;heat 0 99 5");
        m.take(0, 1);
        for (int i = 0; i < 30; i++) {
            m.hour();
        }
        due("TIRED at most", m.hand(0, 2), 99);
        due("stands", m.jug(0, 2), 99 + 30 * 29);
        m.hour();
        due("stands", m.jug(0, 2), 99 + 31 * 29);
        m.hour();
        due("TURNED at most", m.jug(0, 2), 999);
        int turned = 0;
        for (int i = 0; i < 32; i++) {
            turned += 20 + Math.min(99, 5 * i) / 4 + 20;
        }
        due("held", m.jug(1, 2), Math.min(999, turned));
    }

    private static void promise11() {
        TurningMilk m = of("dairy 2 0 10;road 0 1 1;hand 0 1 0;hand 1 1 0;jug 0 0;jug 0 0;jug 0 0;jug 1 0");
        due("take(1, 0)", m.take(1, 0), -1);
        due("take(0, 3)", m.take(0, 3), -1);
        due("take(0, 4)", m.take(0, 4), -1);
        due("take(0, -1)", m.take(0, -1), -1);
        due("take(2, 0)", m.take(2, 0), -1);
        due("take(-1, 0)", m.take(-1, 0), -1);
        due("nothing happened", m.count(13), 0);
        due("take(0, 2)", m.take(0, 2), 4);
        due("take(0, 2)", m.take(0, 2), -1);
        due("take(0, 0)", m.take(0, 0), 5);
        due("two at most", m.take(0, 1), -1);
        due("acts", m.count(13), 2);
        m.go(1, 0);
        due("on a road", m.take(1, 1), -1);
        m.hour();
        due("there", m.take(1, 1), 2);
        due("held by another", m.take(1, 0), -1);
    }

    private static void promise12() {
        TurningMilk m = of("dairy 2 0 10;road 0 1 2;hand 0 1 0;hand 0 1 0;jug 0 0;jug 0 0");
        due("not held", m.put(0, 0), -1);
        m.take(0, 0);
        due("not by it", m.put(1, 0), -1);
        due("put(0, 2)", m.put(0, 2), -1);
        due("put(2, 0)", m.put(2, 0), -1);
        due("put(-1, -1)", m.put(-1, -1), -1);
        m.go(0, 1);
        due("on a road", m.put(0, 0), -1);
        m.hour();
        due("on a road", m.put(0, 0), -1);
        m.hour();
        due("there", m.put(0, 0), 1);
        due("stands there", m.jug(0, 0), 1);
        due("held by none", m.jug(0, 1), -1);
    }

    private static void promise13() {
        TurningMilk m = of("dairy 2 0 10;road 0 1 1;hand 0 1 0;hand 0 1 0;hand 1 1 0;jug 0 0;jug 0 0;jug 0 0");
        due("it stands", m.handOn(0, 1), -1);
        m.take(0, 0);
        due("to itself", m.handOn(0, 0), -1);
        due("elsewhere", m.handOn(0, 2), -1);
        due("handOn(3, 1)", m.handOn(3, 1), -1);
        due("handOn(0, 3)", m.handOn(0, 3), -1);
        due("handOn(0, -1)", m.handOn(0, -1), -1);
        due("handOn(0, 1)", m.handOn(0, 1), 0);
        due("held", m.jug(0, 1), 1);
        m.take(0, 1);
        m.take(0, 2);
        due("two at most", m.handOn(0, 0), -1);
        due("handOn(1, 1)", m.handOn(1, 1), 0);
        due("two at most", m.handOn(2, 1), -1);
        due("acts", m.count(13), 5);
        m.go(2, 0);
        due("on a road", m.handOn(2, 2), -1);
        m.go(0, 1);
        due("from a road", m.handOn(2, 1), -1);
    }

    private static void promise14() {
        TurningMilk m = farm();
        due("go(0, 0)", m.go(0, 0), -1);
        due("go(0, 3)", m.go(0, 3), -1);
        due("go(0, 4)", m.go(0, 4), -1);
        due("go(0, -1)", m.go(0, -1), -1);
        due("go(3, 1)", m.go(3, 1), -1);
        due("go(-1, 1)", m.go(-1, 1), -1);
        m.take(0, 0);
        due("go(0, 1)", m.go(0, 1), 2);
        due("on a road", m.go(0, 0), -1);
        due("on a road", m.go(0, 2), -1);
        m.hour();
        due("to go", m.hand(0, 1), 1);
        m.hour();
        due("to go", m.hand(0, 1), 0);
        due("go(0, 2)", m.go(0, 2), 1);
        due("with what it holds", m.hand(0, 3), 1);
        due("backwards", m.go(1, 0), 2);
    }

    private static void promise15() {
        TurningMilk m = of("dairy 2 1 20;hand 0 1 0;jug 1 5;jug 0 7;jug 0 6;want 0 6 7 9;want 0 6 9 5;want 1 6 7 3;want 0 0 99 1");
        due("not turned so far", m.meet(2), -1);
        due("meet(4)", m.meet(4), -1);
        due("meet(-1)", m.meet(-1), -1);
        due("the first", m.meet(0), 1);
        due("once", m.meet(0), -1);
        due("PAY", m.count(11), 9);
        m.hour();
        due("meet(2)", m.meet(2), 0);
        due("PAY", m.count(11), 12);
        due("HOUR", m.want(2, 4), 1);
        m.take(0, 2);
        due("held", m.meet(1), -1);
        m.put(0, 2);
        due("meet(1)", m.meet(1), 2);
        due("none left", m.meet(3), -1);
        due("a gone one is not taken", m.take(0, 2), -1);
        m.hour();
        due("a gone one does not turn", m.jug(1, 2), 7);
        TurningMilk far = of("dairy 2 1 20;jug 0 8;want 0 6 7 9");
        due("too far", far.meet(0), -1);
    }

    private static void promise16() {
        TurningMilk m = farm();
        due("undo", m.undo(), -1);
        m.take(0, 0);
        m.hour();
        m.go(0, 1);
        m.meet(1);
        rule(m, "turn 1");
        m.force(0);
        m.test(1, 1, 1, 1);
        due("undo meet", m.undo(), 3);
        due("PAY", m.count(11), 0);
        due("met", m.want(1, 4), -1);
        due("gone", m.jug(1, 4), 0);
        due("undo go", m.undo(), 2);
        due("place", m.hand(0, 0), 0);
        due("to go", m.hand(0, 1), 0);
        due("undo hour", m.undo(), 1);
        due("HOUR", m.count(9), 0);
        due("turned", m.jug(0, 2), 2);
        due("tired", m.hand(0, 2), 0);
        due("held", m.jug(0, 1), 0);
        due("undo take", m.undo(), 0);
        due("stands", m.jug(0, 0), 0);
        due("none", m.undo(), -1);
        due("no act", m.count(8), 0);
        due("no act", m.count(12), 1);
        for (int i = 0; i < 25; i++) {
            m.hour();
        }
        due("20 at most", m.count(13), 20);
        for (int i = 19; i >= 0; i--) {
            due("undo", m.undo(), i);
        }
        due("none", m.undo(), -1);
        due("HOUR", m.count(9), 5);
        undoOfGiving();
    }

    private static void undoOfGiving() {
        TurningMilk m = of("dairy 2 0 10;hand 0 1 0;hand 0 1 0;jug 0 0");
        m.take(0, 0);
        m.handOn(0, 1);
        m.put(1, 0);
        due("undo put", m.undo(), 2);
        due("held", m.jug(0, 1), 1);
        due("undo handOn", m.undo(), 1);
        due("held", m.jug(0, 1), 0);
    }

    private static void promise17() {
        TurningMilk m = farm();
        m.take(0, 0);
        m.go(0, 1);
        int[] turned = {2, 5, 11, 18, 24, 31};
        for (int n = 0; n < 6; n++) {
            due("TURNED in " + n, m.ahead(0, n, 0), turned[n]);
            due("TIRED in " + n, m.ahead(0, n, 1), 4 * n);
        }
        due("nothing changes", m.count(9), 0);
        due("nothing changes", m.hand(0, 1), 2);
        due("100 HOURS", m.ahead(1, 100, 0), 10 + 100 + 4);
        due("100 HOURS", m.ahead(0, 100, 1), 99);
        due("101 HOURS", m.ahead(0, 101, 0), -2);
        due("below 0", m.ahead(0, -1, 0), -2);
        due("JUG 2", m.ahead(2, 1, 0), -2);
        due("JUG -1", m.ahead(-1, 1, 0), -2);
        due("HAND 2", m.ahead(2, 1, 1), 0);
        due("HAND 3", m.ahead(3, 1, 1), -2);
        due("what 2", m.ahead(0, 1, 2), -2);
        due("what -1", m.ahead(0, 1, -1), -2);
        m.meet(1);
        due("gone", m.ahead(1, 1, 0), -1);
        due("gone, but what's asked is not", m.ahead(1, 101, 0), -2);
        rule(m, "turn 10 if road = 1;turn 1");
        m.force(0);
        due("it comes to a place", m.ahead(0, 4, 0), 2 + 20 + 2);
    }

    private static void promise18() {
        TurningMilk m = farm();
        due("way(0, 2, 0)", m.way(0, 2, 0), 3);
        due("way(0, 2, 1)", m.way(0, 2, 1), 1);
        due("way(2, 0, 0)", m.way(2, 0, 0), 3);
        due("way(2, 0, 1)", m.way(2, 0, 1), 1);
        due("way(1, 2, 1)", m.way(1, 2, 1), 2);
        due("way(3, 3, 0)", m.way(3, 3, 0), 0);
        due("way(3, 3, 1)", m.way(3, 3, 1), -1);
        due("way(0, 3, 0)", m.way(0, 3, 0), -2);
        due("way(3, 0, 1)", m.way(3, 0, 1), -2);
        due("way(0, 4, 0)", m.way(0, 4, 0), -3);
        due("way(-1, 0, 0)", m.way(-1, 0, 0), -3);
        due("way(0, 1, 2)", m.way(0, 1, 2), -3);
        due("way(0, 1, -1)", m.way(0, 1, -1), -3);
        due("no dairy", new TurningMilk().way(0, 1, 0), -3);
        TurningMilk even = of("dairy 4 0 10;road 0 2 1;road 2 3 2;road 0 1 2;road 1 3 1;road 0 3 3");
        due("the least of several", even.way(0, 3, 1), 1);
        due("even", even.way(0, 3, 0), 3);
        TurningMilk row = of("dairy 6 0 10;road 5 4 5;road 4 3 5;road 3 2 5;road 2 1 5;road 1 0 5");
        due("the longest", row.way(0, 5, 0), 25);
    }

    private static void promise19() {
        TurningMilk m = farm();
        due("brings(0, 0, 2)", m.brings(0, 0, 2), 18);
        due("brings(1, 0, 2)", m.brings(1, 0, 2), 7);
        due("brings(2, 0, 2)", m.brings(2, 0, 2), 24);
        due("it is there", m.brings(2, 0, 0), 2);
        due("no way", m.brings(0, 0, 3), -2);
        due("brings(3, 0, 2)", m.brings(3, 0, 2), -1);
        due("brings(0, 2, 2)", m.brings(0, 2, 2), -1);
        due("brings(0, 0, 4)", m.brings(0, 0, 4), -1);
        due("brings(0, 0, -1)", m.brings(0, 0, -1), -1);
        m.hour();
        due("from now on", m.brings(0, 0, 2), 3 + 5 + 6 + 5);
        m.take(0, 0);
        due("held", m.brings(0, 0, 2), -1);
        m.hour();
        m.put(0, 0);
        due("not tired", m.brings(0, 0, 1), 8 + 5 + 4);
        rule(m, "turn 10 * road + held + jug * 5");
        m.force(0);
        due("on roads, alone", m.brings(0, 0, 2), 8 + 33);
        due("its number", m.brings(0, 1, 2), m.jug(1, 2) + 16);
    }

    private static void promise20() {
        TurningMilk m = farm();
        due("rows", m.relay(0, 2, 8, 14, 0), 3);
        due("least", m.relay(0, 2, 8, 14, 1), 6);
        due("first", m.relay(0, 2, 8, 14, 2), 0);
        due("first", m.relay(0, 2, 8, 14, 3), 1);
        due("no such road", m.relay(0, 2, 8, 14, 4), -2);
        due("no such road", m.relay(0, 2, 8, 14, 6), -2);
        due("all rows", m.relay(0, 2, 0, 999, 0), 9);
        due("one row", m.relay(0, 2, 24, 24, 0), 1);
        due("one row", m.relay(0, 2, 24, 24, 2), 2);
        due("one row", m.relay(0, 2, 24, 24, 3), 2);
        due("no row", m.relay(0, 2, 25, 999, 0), 0);
        due("no row", m.relay(0, 2, 25, 999, 1), 6);
        due("no row", m.relay(0, 2, 25, 999, 2), -2);
        due("no roads", m.relay(0, 0, 2, 2, 0), 1);
        due("no roads", m.relay(0, 0, 3, 3, 0), 0);
        due("no roads", m.relay(0, 0, 3, 3, 1), 2);
        due("no roads", m.relay(0, 0, 2, 2, 2), -2);
        due("no way", m.relay(0, 3, 0, 999, 0), -2);
        due("no hands", of("dairy 2 0 10;road 0 1 1;jug 0 0").relay(0, 1, 0, 9, 0), -2);
        due("no hands, no roads", of("dairy 2 0 10;road 0 1 1;jug 0 0").relay(0, 0, 0, 9, 0), 1);
        due("what 7", m.relay(0, 2, 0, 9, 7), -3);
        due("what -1", m.relay(0, 2, 0, 9, -1), -3);
        due("least -1", m.relay(0, 2, -1, 9, 0), -3);
        due("most 1000", m.relay(0, 2, 0, 1000, 0), -3);
        due("most below", m.relay(0, 2, 9, 8, 0), -3);
        due("jug 2", m.relay(2, 2, 0, 9, 0), -3);
        due("place 4", m.relay(0, 4, 0, 9, 0), -3);
        m.take(0, 0);
        due("held", m.relay(0, 2, 0, 9, 0), -3);
        TurningMilk row = of("dairy 6 0 10;road 5 4 5;road 4 3 5;road 3 2 5;road 2 1 5;road 1 0 5;jug 0 0"
                + ";hand 0 0 0;hand 0 1 0;hand 0 2 0;hand 0 3 0;hand 0 4 0");
        due("five roads", row.relay(0, 5, 0, 999, 0), 3125);
        due("five roads", row.relay(0, 5, 95, 95, 0), 5);
        due("the last", row.relay(0, 5, 95, 95, 6), 4);
        due("the first", row.relay(0, 5, 95, 95, 2), 3);
        TurningMilk old = of("dairy 6 9 10;road 0 1 5;road 1 2 5;road 2 3 5;road 3 4 5;road 4 5 5;jug 0 99;hand 0 20 5;hand 0 0 0"
                + ";heat 0 99 5;heat 0 99 5;heat 0 99 5");
        for (int i = 0; i < 40; i++) {
            old.hour();
        }
        due("999 at most", old.relay(0, 5, 999, 999, 0), 32);
        due("999 at most", old.relay(0, 5, 0, 998, 6), -2);
        due("999 at most", old.relay(0, 5, 999, 999, 1), 999);
        due("999 at most", old.brings(0, 0, 5), 999);
    }

    private static void promise21() {
        TurningMilk m = of("dairy 2 0 99;hand 0 0 0;jug 0 5;jug 0 9;want 0 5 9 4;want 1 5 5 6;want 0 9 9 6;want 1 0 99 6");
        due("PAY", m.match(0), 12);
        due("WANT 0", m.match(1), -1);
        due("WANT 1", m.match(2), -1);
        due("WANT 2", m.match(3), 1);
        due("WANT 3", m.match(4), 0);
        due("no WANT 4", m.match(5), -2);
        due("no WANT 5", m.match(6), -2);
        due("match(7)", m.match(7), -3);
        due("match(-1)", m.match(-1), -3);
        due("no dairy", new TurningMilk().match(0), -3);
        m.take(0, 0);
        due("held ones too", m.match(0), 12);
        m.put(0, 0);
        m.meet(0);
        due("a gone one not", m.match(0), 6);
        due("met", m.match(1), -1);
        due("none ahead of JUG 0", m.match(3), -1);
        due("the last", m.match(4), 1);
        TurningMilk two = of("dairy 2 0 99;jug 0 5;jug 0 5;want 0 0 9 4");
        due("JUG 0 ahead of JUG 1", two.match(1), 0);
        due("no wants", of("dairy 2 0 99;jug 0 5").match(0), 0);
    }

    private static void promise22() {
        TurningMilk m = farm();
        due("rest(0, 3, 1, 0)", m.rest(0, 3, 1, 0), 1);
        due("rest(0, 3, 1, 1)", m.rest(0, 3, 1, 1), 3);
        due("rest(0, 3, 2, 0)", m.rest(0, 3, 2, 0), 5);
        due("rest(0, 3, 2, 1)", m.rest(0, 3, 2, 1), 8);
        due("rest(0, 3, 3, 0)", m.rest(0, 3, 3, 0), 7);
        due("rest(0, 3, 3, 1)", m.rest(0, 3, 3, 1), 16);
        due("rest(0, 3, 0, 0)", m.rest(0, 3, 0, 0), 0);
        due("rest(0, 3, 0, 1)", m.rest(0, 3, 0, 1), 0);
        due("the least set", m.rest(2, 10, 1, 0), 1);
        due("n 0", m.rest(0, 0, 0, 0), -1);
        due("n 11", m.rest(0, 11, 1, 0), -1);
        due("k 4", m.rest(0, 3, 4, 0), -1);
        due("k -1", m.rest(0, 3, -1, 0), -1);
        due("what 2", m.rest(0, 3, 1, 2), -1);
        due("hand 3", m.rest(3, 3, 1, 0), -1);
        m.take(0, 0);
        for (int i = 0; i < 3; i++) {
            m.hour();
        }
        due("TIRED as it is", m.rest(0, 2, 1, 1), 5);
        due("rests first", m.rest(0, 2, 1, 0), 2);
        rule(m, "turn 9 - 5 * held if jug = 0 and turned < 4;turn 20 + sour");
        m.force(0);
        due("alone, JUG 0", m.rest(0, 2, 2, 1), 4 + 20);
        rule(m, "turn 10 * road + 1");
        m.force(1);
        m.go(0, 1);
        due("on its road yet", m.rest(0, 4, 2, 0), 12);
        due("on its road yet", m.rest(0, 4, 3, 1), 13);
    }

    private static void promise23() {
        TurningMilk m = new TurningMilk();
        due("no dairy", m.test(0, 1, 0, 0), -2);
        due("no dairy", m.test(0, -1, 0, 0), -2);
        dairy(m, FARM);
        int[][] bad = {{-1, 1, 0, 0}, {1000, 1, 0, 0}, {0, 0, 0, 0}, {0, 21, 0, 0}, {0, -2, 0, 0},
            {0, 1, -1, 0}, {0, 1, 100, 0}, {0, 1, 0, -1}, {0, 1, 0, 1000}};
        for (int[] t : bad) {
            due("test " + java.util.Arrays.toString(t), m.test(t[0], t[1], t[2], t[3]), -2);
        }
        due("nothing happened", m.count(12), 0);
        for (int i = 1; i <= 10; i++) {
            due("test", m.test(999, 20, 99, 999), i);
        }
        due("an eleventh", m.test(0, 1, 0, 0), -2);
        due("TESTS", m.count(12), 10);
        due("none", m.test(0, -1, 0, 0), 0);
        due("TESTS", m.count(12), 0);
        due("test", m.test(0, 1, 0, 0), 1);
    }

    private static void promise24() {
        TurningMilk m = farm();
        due("all", m.who(0), 3);
        due("all", m.who(1), 0);
        due("all", m.who(2), 7);
        m.test(2, 3, 0, 18);
        due("one", m.who(0), 1);
        due("one", m.who(1), 0);
        due("one", m.who(2), 1);
        m.test(5, 1, 1, 13);
        due("nobody", m.who(0), 0);
        due("nobody", m.who(1), -2);
        due("nobody", m.who(2), 0);
        m.test(0, -1, 0, 0);
        m.test(5, 1, 1, 13);
        due("the third", m.who(1), 2);
        due("the third", m.who(2), 4);
        due("what 3", m.who(3), -1);
        due("what -1", m.who(-1), -1);
        due("no dairy", new TurningMilk().who(0), -1);
        m.test(0, -1, 0, 0);
        rule(m, "turn held + 20 * road + 10 * jug + hand % 2 * 5");
        m.force(0);
        m.test(1, 2, 7, 3);
        due("at a place, alone, JUG 0", m.who(2), 5);
    }

    private static void promise25() {
        TurningMilk m = farm();
        due("HOURS", m.probe(0), 1);
        due("alike", m.probe(1), 1);
        due("what 2", m.probe(2), -1);
        due("what -1", m.probe(-1), -1);
        due("no dairy", new TurningMilk().probe(0), -1);
        m.test(0, 1, 0, 999);
        due("nobody", m.probe(0), -2);
        TurningMilk n = of("dairy 2 0 10;hand 0 5 0;hand 0 5 2;hand 0 5 0;hand 0 7 1;hand 0 5 4");
        due("HOURS", n.probe(0), 3);
        due("alike", n.probe(1), 2);
        n.test(0, 1, 0, 5);
        due("HOURS of these", n.probe(0), 3);
        n.test(0, 20, 0, 100);
        due("one HOUR", n.probe(0), 1);
        due("all alike", n.probe(1), 2);
        due("no hands", of("dairy 2 0 10").probe(0), -2);
    }

    private static void promise26() {
        TurningMilk m = farm();
        due("rows(2, 6, -1)", m.rows(2, 6, -1), 3);
        due("first", m.rows(2, 6, 0), 0);
        due("first", m.rows(2, 6, 1), 0);
        due("so many hours there are not", m.rows(2, 6, 2), -2);
        due("bits", m.rows(2, 6, 20), 7);
        due("bits", m.rows(2, 9, 20), 5);
        due("bits", m.rows(2, 9, 21), 5);
        due("bits", m.rows(2, 9, 22), -2);
        due("no row", m.rows(2, 5, -1), 0);
        due("no row", m.rows(2, 5, 0), -2);
        due("no row", m.rows(2, 5, 20), -2);
        due("first", m.rows(3, 9, 0), 0);
        due("first", m.rows(3, 15, 0), 0);
        due("first", m.rows(3, 15, 1), 2);
        due("nothing", m.rows(12, 0, -1), 1);
        due("nothing", m.rows(12, 0, 11), 1);
        due("nothing", m.rows(12, 0, 31), 2);
        int[][] bad = {{0, 0, -1}, {13, 0, -1}, {1, -1, -1}, {1, 301, -1}, {1, 0, -2}, {1, 0, 12}, {1, 0, 19}, {1, 0, 32}};
        for (int[] r : bad) {
            due("rows " + java.util.Arrays.toString(r), m.rows(r[0], r[1], r[2]), -3);
        }
        due("no dairy", new TurningMilk().rows(1, 0, -1), -3);
        due("no hands", of("dairy 2 0 10").rows(1, 0, -1), 0);
        due("no hands", of("dairy 2 0 10").rows(1, 0, 0), -2);
        TurningMilk same = of("dairy 2 0 10" + times(";hand 0 20 0", 5));
        due("the most", same.rows(12, 240, -1), 244140625);
        due("300", same.rows(12, 300, -1), 0);
    }

    private static void promise27() {
        TurningMilk m = farm();
        due("ice(1)", m.ice(1), 0);
        due("ice(2)", m.ice(2), 4);
        due("ice(3)", m.ice(3), 8);
        due("ice(60)", m.ice(60), 8);
        due("ice(0)", m.ice(0), -1);
        due("ice(61)", m.ice(61), -1);
        due("no dairy", new TurningMilk().ice(1), -1);
        m.meet(1);
        due("a gone one does not turn", m.ice(3), 4);
        m.take(0, 0);
        rule(m, "turn 10 - heat * 3");
        m.force(0);
        due("less", m.ice(3), -12);
        due("heat is back", m.ahead(0, 2, 0), 2 + 10 + 4);
    }

    private static void promise28() {
        TurningMilk m = new TurningMilk();
        due("seed(5)", m.seed(5), 0);
        due("seed(-1)", m.seed(-1), -1);
        due("seed(MIN)", m.seed(MIN), -1);
        due("x", m.count(14), 5);
        due("seed(MAX)", m.seed(MAX), 5);
        due("seed(0)", m.seed(0), MAX);
    }

    /**
     * From 0 the DRAWS are 0, 21468, 9988, 22117, 3498, 16927, ...: of two PLACES 0, 0, 0, 1, 0, 1.
     */
    private static void promise29() {
        TurningMilk m = of("dairy 2 1 10;road 0 1 2;hand 0 5 0;jug 0 0");
        due("stays, takes", m.years(1, 1, 1), 5);
        due("2 HOURS", m.years(1, 2, 1), 10);
        due("SOUR", m.years(1, 2, 0), 1);
        due("not SOUR", m.years(1, 1, 0), 0);
        due("goes ahead of it", twoYears(), 5 + 5);
        due("x as it was", m.count(14), 0);
        due("nothing stays", m.jug(0, 0), 0);
        due("nothing stays", m.count(13), 0);
        due("no hands", of("dairy 2 2 10;jug 0 4;jug 1 9").years(3, 5, 1), 3 * (14 + 19));
        due("no hands", of("dairy 2 2 10;jug 0 4;jug 1 9").years(3, 1, 0), 3);
        due("no jugs", of("dairy 2 2 10;hand 0 0 0").years(10, 60, 1), 0);
        int[][] bad = {{0, 1, 0}, {11, 1, 0}, {1, 0, 0}, {1, 61, 0}, {1, 1, -1}, {1, 1, 2}};
        for (int[] y : bad) {
            due("years " + java.util.Arrays.toString(y), m.years(y[0], y[1], y[2]), -1);
        }
        due("no dairy", new TurningMilk().years(1, 1, 0), -1);
        TurningMilk gone = of("dairy 2 2 10;jug 0 12;want 0 0 99 1");
        gone.meet(0);
        due("gone", gone.years(1, 1, 0), 0);
        due("gone", gone.years(1, 1, 1), 0);
        yearsOnRoads();
    }

    /** It sets out by the fourth DRAW, in the third HOUR, and comes in the fifth to go back by the next. */
    private static void yearsOnRoads() {
        TurningMilk m = of("dairy 2 1 10;road 0 1 2;hand 0 5 0;jug 0 0");
        rule(m, "turn 10 * road + 1");
        m.force(0);
        int[] turned = {1, 2, 13, 24, 35};
        for (int n = 1; n <= 5; n++) {
            due("years(1, " + n + ", 1)", m.years(1, n, 1), turned[n - 1]);
        }
        m.seed(654583775);
        due("goes, so that it can't take", m.years(1, 1, 1), 1);
        due("nothing is on a road", m.hand(0, 1), 0);
    }

    /** The second year has DRAWS 9988 (0: it stays) and 22117 (of one HAND: it takes). */
    private static int twoYears() {
        return of("dairy 2 1 10;road 0 1 2;hand 0 5 0;jug 0 0").years(2, 1, 1);
    }

    private static void promise30() {
        TurningMilk m = farm();
        m.hour();
        m.meet(1);
        m.test(0, 1, 0, 0);
        m.seed(77);
        rule(m, "turn 1");
        rule(m, "turn 1");
        m.force(1);
        m.feed(0, 0, 0, 0, 0);
        m.end(3);
        int[] told = {4, 1, 20, 3, 3, 2, 2, 2, 1, 1, 2, 5, 1, 2, 77, 3};
        for (int what = 0; what < 16; what++) {
            due("count(" + what + ")", m.count(what), told[what]);
        }
        due("count(16)", m.count(16), -1);
        due("count(-1)", m.count(-1), -1);
        TurningMilk hot = of("dairy 2 0 10;heat 0 0 5;heat 0 1 3;heat 1 1 1");
        due("HEAT", hot.count(10), 8);
        hot.hour();
        due("HEAT", hot.count(10), 4);
        hot.hour();
        due("HEAT", hot.count(10), 0);
    }

    private static void promise31() {
        TurningMilk m = new TurningMilk();
        due("without a dairy", m.image(0), 0);
        due("image(4)", m.image(4), -1);
        due("image(-1)", m.image(-1), -1);
        dairy(m, FARM);
        m.hour();
        m.hour();
        due("HOUR", m.image(3), 2);
        due("acts stay", m.count(13), 2);
        m.hour();
        due("anew", m.image(3), 3);
    }

    private static void promise32() {
        TurningMilk m = farm();
        due("never made", m.back(0), -1);
        due("back(4)", m.back(4), -1);
        due("back(-1)", m.back(-1), -1);
        m.take(0, 0);
        m.hour();
        m.test(2, 3, 0, 18);
        m.seed(4);
        due("image", m.image(1), 1);
        rule(m, "turn 7");
        m.force(0);
        m.seed(6);
        m.test(0, -1, 0, 0);
        m.hour();
        m.put(0, 0);
        m.meet(1);
        dairy(m, "dairy 2 0 10");
        m.image(2);
        m.feed(0, 0, 0, 0, 0);
        due("never made", m.back(0), -1);
        due("back", m.back(1), 1);
        int[] told = {4, 1, 20, 3, 3, 2, 2, 1, -1, 1, 2, 0, 1, 0, 4, 20};
        for (int what = 0; what < 16; what++) {
            due("count(" + what + ")", m.count(what), told[what]);
        }
        due("held", m.jug(0, 1), 0);
        due("turned", m.jug(0, 2), 5);
        due("tired", m.hand(0, 2), 4);
        due("met", m.want(1, 4), -1);
        due("way", m.way(0, 2, 0), 3);
        due("who", m.who(2), 1);
        due("undo", m.undo(), -1);
        due("without a rule again", m.ahead(0, 1, 0), 11);
        m.hour();
        due("the image stays as it was", m.back(1), 1);
        due("the other", m.back(2), 0);
        due("its rule", m.count(8), 0);
        due("its places", m.count(0), 2);
    }

    private static void run(int number) {
        sentence("promise " + number);
        switch (number) {
            case 1: promise1(); break;
            case 2: promise2(); break;
            case 3: promise3(); break;
            case 4: promise4(); break;
            case 5: promise5(); break;
            case 6: promise6(); break;
            case 7: promise7(); break;
            case 8: promise8(); break;
            case 9: promise9(); break;
            case 10: promise10(); break;
            case 11: promise11(); break;
            case 12: promise12(); break;
            case 13: promise13(); break;
            case 14: promise14(); break;
            case 15: promise15(); break;
            case 16: promise16(); break;
            case 17: promise17(); break;
            case 18: promise18(); break;
            case 19: promise19(); break;
            case 20: promise20(); break;
            case 21: promise21(); break;
            case 22: promise22(); break;
            case 23: promise23(); break;
            case 24: promise24(); break;
            case 25: promise25(); break;
            case 26: promise26(); break;
            case 27: promise27(); break;
            case 28: promise28(); break;
            case 29: promise29(); break;
            case 30: promise30(); break;
            case 31: promise31(); break;
            default: promise32(); break;
        }
    }

    public static void main(String[] args) {
        for (int number = 1; number <= 32; number++) {
            run(number);
        }
        finish();
    }
}
