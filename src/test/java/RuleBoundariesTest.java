/** The edges of a RULE's text and of its SUMS: promises 5 and 6, and what part I says of RULES and their FAULTS. */
public final class RuleBoundariesTest extends Due {
    private static final String[] WORDS = {"hand", "speed", "tired", "jug", "turned", "heat", "hour", "road", "held", "sour"};
    /** 2 to the 63rd, which in 64 bits is the least number there is. */
    private static final String LEAST = "32768*32768*32768*32768*8";

    /** How far JUG 1, TURNED 2, turns in HAND 1 (SPEED 3, not TIRED, at a PLACE) in HOUR 0 by a RULE. */
    private static int turns(String text) {
        TurningMilk m = of("dairy 2 1 20;hand 0 0 0;hand 0 3 5;jug 0 0;jug 0 2", text);
        m.take(1, 1);
        m.hour();
        return m.jug(1, 2) - 2;
    }

    private static void turn(String text, int due) {
        due(text, turns(text), due);
    }

    private static void holds(String test, boolean due) {
        turn("turn 7 if " + test + ";turn 1", due ? 7 : 1);
    }

    private static void faultAt(String before, String behind, int kind) {
        noRule(before + behind, before.length(), kind);
    }

    private static void sixRules() {
        sentence("RULES 0 to 5: its number; NONE, and nothing happens: there are 6");
        TurningMilk m = new TurningMilk();
        for (int i = 0; i < 6; i++) {
            due("rule()", rule(m, "turn " + i), i);
            due("RULES", m.count(7), i + 1);
        }
        say(m, "turn 9");
        due("a seventh", m.rule(), -1);
        nothingHappens(RuleBoundariesTest::withSix, "rule()", TurningMilk::rule, -1);
        nothingHappens(() -> withSixAnd("turn 9"), "rule() of a text", TurningMilk::rule, -1);
        nothingHappens(() -> withSixAnd("turn"), "rule() of a FAULT", TurningMilk::rule, -1);
        nothingHappens(() -> withSixAnd("dairy 2 0 10"), "rule() of a DAIRY", TurningMilk::rule, -1);
        sentence("The TAPE, which is empty then, is a RULE: its number; -2 - its FAULT");
        TurningMilk few = new TurningMilk();
        due("a FAULT", rule(few, "turn 1 2"), fault(7, 0));
        due("the TAPE", few.count(15), 0);
        due("RULES", few.count(7), 0);
        due("force(0)", few.force(0), -2);
        due("a RULE", rule(few, "turn 1"), 0);
        due("the TAPE", few.count(15), 0);
        due("no text", few.rule(), fault(0, 0));
        due("none IN FORCE yet", few.count(8), -1);
    }

    private static TurningMilk withSix() {
        TurningMilk m = of("dairy 2 1 20;hand 0 0 0;hand 0 3 5;jug 0 0;jug 0 2");
        for (int i = 0; i < 6; i++) {
            rule(m, "turn 2 + " + i);
        }
        m.force(3);
        m.take(0, 0);
        m.hour();
        return m;
    }

    private static TurningMilk withSixAnd(String tape) {
        TurningMilk m = withSix();
        say(m, tape);
        return m;
    }

    private static void ruleInForce() {
        sentence("A RULE is IN FORCE (NONE: none): which was; -2, and nothing happens, if there is none such");
        for (int rule : new int[] {6, 7, -2, MIN, MAX}) {
            nothingHappens(RuleBoundariesTest::withSix, "force(" + rule + ")", m -> m.force(rule), -2);
        }
        for (int rule : new int[] {0, 1, -2}) {
            nothingHappens(TurningMilk::new, "force(" + rule + ")", m -> m.force(rule), -2);
        }
        due("force(-1) of none", new TurningMilk().force(-1), -1);
        TurningMilk m = withSix();
        due("force(5)", m.force(5), 3);
        due("by RULE 5", m.ahead(0, 1, 0), 5 + 7);
        due("force(0)", m.force(0), 5);
        due("by RULE 0", m.ahead(0, 1, 0), 5 + 2);
        due("force(0)", m.force(0), 0);
        due("force(-1)", m.force(-1), 0);
        due("without", m.ahead(0, 1, 0), 5);
        due("force(-1)", m.force(-1), -1);
        due("no ACT", m.count(13), 2);
    }

    private static void atMost400Bytes() {
        sentence("texts likewise (at most 400 bytes)");
        isRule("turn 1" + times(" ", 394));
        isRule(times(" ", 394) + "turn 1");
        isRule("turn" + times(" ", 395) + "1");
        noRule("turn" + times(" ", 396), 400, 0);
        noRule("turn 1" + times(" ", 393) + ";", 400, 0);
        noRule("turn 1" + times(" ", 393) + "2", 399, 0);
        noRule(times(" ", 400), 400, 0);
        noRule("", 0, 0);
    }

    private static void bytesBehindTheEnd() {
        sentence("The TAPE has its first n bytes alone");
        String text = "turn 12345 if hands <= 1 and sour = 1;turned";
        int[] ends = {4, 5, 6, 10, 12, 13, 15, 18, 20, 21, 22, 24, 28, 37, 41, 44};
        int[] places = {4, 5, -1, -1, 11, 13, 14, 18, 14, 14, 14, 14, 14, 14, 14, 14};
        for (int i = 0; i < ends.length; i++) {
            cut(text, ends[i], places[i] < 0 ? 0 : fault(places[i], 0));
        }
        cut("turn 1 if hand <= 1", 16, fault(16, 0));
        cut("turn 1 if hand <= 1", 17, fault(17, 0));
        cut("turn 1 if hand <= 11", 19, 0);
        cut("turn 1 if hand < speeds", 22, 0);
        cut("turn 1 if hand < speeds", 23, fault(17, 0));
        cut("turn 1;turned", 11, fault(11, 0));
        cut("turn 1;turned", 12, fault(7, 0));
        cut("turn 123456", 10, 0);
        cut("turn 123456", 11, fault(5, 1));
        cut("turn 1 iff", 9, fault(9, 0));
        cut("turn 1 iff", 10, fault(7, 0));
    }

    private static void cut(String text, int end, int due) {
        TurningMilk m = new TurningMilk();
        say(m, text);
        m.end(end);
        due("the first " + end + " of '" + text + "'", m.rule(), due);
    }

    private static void twelveClauses() {
        sentence("12 CLAUSES at most; 4 one CLAUSE too many (at its first byte)");
        String eleven = "turn 1 if 1=2" + times(";turn 1 if 1=2", 10);
        turn(eleven + ";turn 9", 9);
        String twelve = eleven + ";turn 9";
        isRule(twelve);
        faultAt(twelve + ";", "turn 9", 4);
        faultAt(twelve + ";  ", "turn", 4);
        faultAt(twelve + ";", "turn 9;turn 9;turn 9", 4);
        sentence("Of one place the least");
        faultAt(twelve + ";", "turned", 0);
        faultAt(twelve + ";", "x", 0);
        faultAt(twelve + ";", "", 0);
        faultAt(twelve + ";", ";", 0);
    }

    private static void digits() {
        sentence("NUMBER (1 to 5 digits, as far as digits go on); 1 a NUMBER of more digits");
        turn("turn 0", 0);
        turn("turn 00000", 0);
        turn("turn 00049", 49);
        turn("turn 99999 - 99998", 1);
        faultAt("turn ", "100000", 1);
        faultAt("turn ", "000000", 1);
        faultAt("turn ", "4294967297", 1);
        faultAt("turn 1+", "123456", 1);
        faultAt("turn 1 if ", "123456=1", 1);
        faultAt("turn 1 if 1=", "123456", 1);
        faultAt("turn 1 if 1=1 and 1<=", times("9", 300), 1);
        faultAt("turn 5 ", "6", 0);
        faultAt("turn 5 ", "123456", 0);
        isRule("turn5");
        sentence("WORDS (small letters, as far as these go on)");
        for (String word : WORDS) {
            isRule("turn " + word);
            isRule("turn 1 if " + word + "=" + word);
            faultAt("turn ", word + "x", 0);
            faultAt("turn ", word.substring(0, word.length() - 1), 0);
            faultAt("turn 1 if 1 = ", word + "z = 1", 0);
            faultAt("turn ", word.toUpperCase(), 0);
            faultAt("turn " + word, "7", 0);
            faultAt("turn " + word, "X", 0);
            faultAt("turn " + word + " ", word, 0);
        }
        for (String word : new String[] {"turn", "if", "and", "or", "not", "place", "tires", "ground", "a", "z"}) {
            faultAt("turn ", word, 0);
            faultAt("turn 1 + ", word, 0);
        }
    }

    private static void bytesThatCantStand() {
        sentence("0 a byte or WORD that can't stand there, or the end (behind the last byte)");
        for (int sign = 0; sign < 256; sign++) {
            boolean isDigit = sign >= '0' && sign <= '9';
            boolean mayFollow = isDigit || sign == ' ' || ";+-*/%".indexOf(sign) >= 0;
            if (!mayFollow) {
                faultAt("turn 1", "" + (char) sign, 0);
            }
            if (!isDigit && sign != ' ') {
                faultAt("turn ", (char) sign + " 1", 0);
            }
            if (sign != 't' && sign != ' ') {
                faultAt("", (char) sign + "urn 1", 0);
            }
        }
        String[] open = {"turn", "turn 1 +", "turn 1 -", "turn 1*", "turn 1 /", "turn 1 %", "turn 1;", "turn 1 if", "turn 1 if 1",
            "turn 1 if 1 =", "turn 1 if 1 <", "turn 1 if 1 <=", "turn 1 if 1 + ", "turn 1 if 1 = 1 +", "turn 1 if 1=1 and",
            "turn 1 if 1=1 or", "turn 1 if not", "turn 1 if [", "turn 1 if [1=1", "turn 1 if [1=1 or [1=1]", "turn 1 if 1=1;"};
        for (String text : open) {
            faultAt(text, "", 0);
            faultAt(text + "  ", "", 0);
            if (!text.startsWith("turn 1 if [1=1")) {
                faultAt(text + "  ", "]", 0);
            }
        }
        String[] joints = {"+", "-", "*", "/", "%"};
        for (String joint : joints) {
            faultAt("turn ", joint + "1", 0);
            faultAt("turn 1 " + joint + " ", joint + " 1", 0);
            faultAt("turn 1 if ", joint + " 1 = 1", 0);
            faultAt("turn 1 if [1=1] ", joint + " 1", 0);
            isRule("turn 1" + joint + "1 if 1" + joint + "1=1" + joint + "1");
        }
    }

    private static void bytesOfTests() {
        sentence("SIGN one of < <= = >= >");
        faultAt("turn 1 if 1 < ", "= 1", 0);
        faultAt("turn 1 if 1 > ", "= 1", 0);
        faultAt("turn 1 if 1 =", "= 1", 0);
        faultAt("turn 1 if 1 =", "< 1", 0);
        faultAt("turn 1 if 1 =", "> 1", 0);
        faultAt("turn 1 if 1 <", "> 1", 0);
        faultAt("turn 1 if 1 <", "< 1", 0);
        faultAt("turn 1 if 1 <=", "= 1", 0);
        faultAt("turn 1 if 1 ", "! 1", 0);
        faultAt("turn 1 if 1 = 1 ", "= 1", 0);
        faultAt("turn 1 if 1 = 1 ", "<= 1", 0);
        faultAt("turn 1 ", "= 1", 0);
        String[] signs = {"<", "<=", "=", ">=", ">"};
        boolean[][] due = {{true, false, false}, {true, true, false}, {false, true, false}, {false, true, true}, {false, false, true}};
        for (int i = 0; i < 5; i++) {
            for (int a = 0; a < 3; a++) {
                holds(a + signs[i] + 1, due[i][a]);
                holds("not " + a + signs[i] + 1, !due[i][a]);
                holds("0 - 3 + " + a + signs[i] + "0 - 2", due[i][a]);
                holds("speed + " + a + signs[i] + "speed + 1", due[i][a]);
            }
        }
        sentence("FACT: not FACT | [ TEST ] (these brackets are signs) | SUM SIGN SUM");
        faultAt("turn ", "[1]", 0);
        faultAt("turn 1 if [1", "]", 0);
        faultAt("turn 1 if [1", "] = 1", 0);
        faultAt("turn 1 if [1 = 1] ", "= 1", 0);
        faultAt("turn 1 if 1 = ", "[1]", 0);
        faultAt("turn 1 if 1 = ", "not 1", 0);
        faultAt("turn 1 if [", "]", 0);
        faultAt("turn 1 if 1=1", "]", 0);
        faultAt("turn 1 if [1=1]", "]", 0);
        faultAt("turn 1 if [1=1", ";turn 1", 0);
        faultAt("turn 1 if [1=1]", "[1=1]", 0);
        faultAt("turn 1 if [1=1] ", "not 1=1", 0);
        faultAt("turn 1 if 1=1 ", "not 1=1", 0);
        faultAt("turn 1 if 1=1 and ", "and 1=1", 0);
        faultAt("turn 1 if 1=1 or ", "and 1=1", 0);
        faultAt("turn 1 if ", "or 1=1", 0);
        faultAt("turn 1 if 1 ", "and 1=1", 0);
        faultAt("turn 1 if 1=1 ", "if 1=1", 0);
        faultAt("turn 1 ", "and 1=1", 0);
        faultAt("turn 1 ", "iff 1=1", 0);
        faultAt("turn 1 if 1=1 ", "andd 1=1", 0);
        faultAt("turn 1 if 1=1 ", "orr 1=1", 0);
        faultAt("turn 1 if ", "nott 1=1", 0);
        faultAt("turn 1 if 1=1 ", "turn 1", 0);
        faultAt("turn 1 if ", ";turn 1", 0);
        sentence("Blanks (32) stand between as one likes");
        turn("turn1if[1=1]and not1=2or 1=2;turn2", 1);
        turn("  turn  1  if  [  1  =  1  ]  and  not  1  <=  0  ;  turn  2  ", 1);
        faultAt("turn", "\t1", 0);
        faultAt("turn 1", "\n", 0);
    }

    private static void tenDeep() {
        sentence("[ and not lie within one another 10 deep at most; 2 too deep (at the sign that opens, or the word not)");
        String begin = "turn 7 if ";
        holds(times("not ", 10) + "1=1", true);
        holds(times("not ", 9) + "1=1", false);
        holds(times("[", 10) + "1=1" + times("]", 10), true);
        holds(times("not[", 5) + "1=1" + times("]", 5), false);
        holds(times("[not ", 5) + "1=1" + times("]", 5), false);
        faultAt(begin + times("not ", 10), "not 1=1", 2);
        faultAt(begin + times("not ", 10), "[1=1]", 2);
        faultAt(begin + times("[", 10), "[1=1" + times("]", 11), 2);
        faultAt(begin + times("[", 10), "not 1=1" + times("]", 10), 2);
        faultAt(begin + times("not[", 5), "not 1=1" + times("]", 5), 2);
        faultAt(begin + times("[not", 5), "[", 2);
        faultAt(begin + times("[", 10) + "  ", "not", 2);
        faultAt(begin + times("[", 10), "nota", 0);
        faultAt(begin + times("[", 10), "]", 0);
        faultAt(begin + times("[", 10) + "1=1" + times("]", 10), "]", 0);
        sentence("deep is what lies within, not what stands beside");
        String ten = times("[", 10) + "1=1" + times("]", 10);
        holds(ten + " and " + ten + " or " + ten, true);
        holds("not 1=2" + times(" and not 1=2", 14), true);
        holds("[1=1]" + times(" and[1=1]", 14), true);
        holds(times("[", 9) + "not 1=2 and not 1=2 or [1=2]" + times("]", 9) + " and not[" + times("not ", 8) + "1=2]", true);
        faultAt(begin + times("[", 9) + "not 1=2 and not ", "not 1=2", 2);
        faultAt(begin + times("[", 10) + "1=1 and ", "[1=1]", 2);
        faultAt(begin + times("[", 10) + "1=1] and not ", "[1=1]", 2);
        isRule(begin + times("[", 10) + "1=1] and not 1=1" + times("]", 9));
        isRule("turn 1 if " + ten + ";turn 1 if " + ten + ";turn 1 if " + times("not ", 10) + "1=1");
    }

    private static void sixtyParts() {
        sentence("at most 60 VALUES (of SUMS) and FACTS made of a SIGN, together");
        String sixty = "turn 0" + times("+1", 59);
        isRule(sixty);
        faultAt(sixty + ";", "", 0);
        isRule("turn 1+1+1 if 1=1" + times(" and 1=1", 18));
        isRule("turn 1+1+1 if [not 1=1" + times("] and[not 1=1", 18) + "]");
        isRule("turn 1" + times(";turn 1", 11));
        isRule("turn 1+1 if 1=1" + times(";turn 1+1 if 1=1", 11));
        turn("turn 0" + times("+1", 48) + " if 1=2" + ";turn 1 if 1=2;turn 9+9", 18);
        sentence("3 one VALUE or FACT too many (at its first byte; of a FACT at its SIGN)");
        faultAt(sixty + "+", "1", 3);
        faultAt(sixty + "*  ", "speed", 3);
        faultAt(sixty + " if ", "1=1", 3);
        faultAt(sixty + ";turn ", "1", 3);
        faultAt(sixty + " if not[", "sour=1]", 3);
        faultAt("turn 1+1+1 if 1=1" + times(" and 1=1", 18) + " or ", "1=1", 3);
        faultAt("turn 1+1 if 1=1" + times(" and 1=1", 18) + " or 1 ", "<= 1", 3);
        faultAt("turn 1+1 if 1=1" + times(" and 1=1", 18) + " or 1 ", "> 1", 3);
        faultAt("turn 1 if 1=1" + times(" and 1=1", 18) + " or 1 = ", "1", 3);
        faultAt("turn 0" + times("+1", 58) + " if 1", "=1", 3);
        faultAt("turn 0" + times("+1", 57) + " if 1=", "1", 3);
        isRule("turn 0" + times("+1", 56) + " if 1=1");
        sentence("Of one place the least");
        faultAt(sixty + "+", "x", 0);
        faultAt(sixty + "+", "", 0);
        faultAt(sixty + "+", "speeds", 0);
        faultAt(sixty + "+", "000001", 1);
        faultAt("turn 0" + times("+1", 58) + " if 1", "]", 0);
        faultAt("turn 0" + times("+1", 58) + " if 1", "", 0);
        faultAt(sixty + " if [", "x", 0);
        faultAt(sixty + " if " + times("[", 10), "[", 2);
    }

    private static void oneTextBehindAnother() {
        sentence("The TAPE .. is a RULE (nothing is left of the one read ahead of it, nor of its FAULT)");
        String[] faulty = {"turn 9 +", "turn 9 * 9 if not [1 = 1 and not [1 = 2 or", "turn 9 if " + times("[", 11), "turn 1" + times("+1", 60),
            "turn 1" + times(";turn 1", 12), "turn 9 if [1=1", "x"};
        for (String text : faulty) {
            TurningMilk m = of("dairy 2 1 20;hand 0 0 0;jug 0 0");
            due("a FAULT", rule(m, text) < -2 ? 1 : 0, 1);
            due("behind it", rule(m, "turn 3"), 0);
            due("behind it", rule(m, "turn 0" + times("+1", 59)), 1);
            due("behind it", rule(m, "turn 4 if " + times("[", 10) + "1=1" + times("]", 10)), 2);
            due("behind it", rule(m, "turn 5" + times(";turn 1", 11)), 3);
            m.take(0, 0);
            int[] due = {3, 50, 4, 5};
            for (int i = 0; i < 4; i++) {
                m.force(i);
                due("by RULE " + i, m.ahead(0, 1, 0), due[i]);
            }
        }
    }

    private static void byZero() {
        sentence("/ is towards 0, % its rest, both 0 by 0");
        turn("turn 7 / 0 + 3", 3);
        turn("turn 7 % 0 + 3", 3);
        turn("turn 0 / 0 + 3", 3);
        turn("turn 0 % 0 + 3", 3);
        turn("turn 7 / tired + 4", 4);
        turn("turn 7 % road + 4", 4);
        turn("turn 7 / 0 * 9 + 5", 5);
        turn("turn 9 - 7 % 0", 9);
        turn("turn " + LEAST + " / 0 + 6", 6);
        turn("turn " + LEAST + " % 0 + 6", 6);
        holds("1 / 0 = 0 and 1 % 0 = 0", true);
        turn("turn 7 / 1", 7);
        turn("turn 7 % 1 + 1", 1);
        turn("turn 7 / 8 + 1", 1);
        turn("turn 7 % 8", 7);
        turn("turn 49 / 5", 9);
        String below = LEAST + "/65536/65536/65536";
        holds(below + " = 0 - 32768", true);
        turn("turn 10 + " + below + " / 5000", 4);
        turn("turn 2778 + " + below + " % 5000", 10);
    }

    private static void goesRound() {
        sentence("all goes round in 64 bits");
        holds(LEAST + " < 0", true);
        holds(LEAST + " - 1 > 0", true);
        holds(LEAST + " - 1 + 1 < 0", true);
        holds(LEAST + " * 2 = 0", true);
        holds(LEAST + " + " + LEAST + " = 0", true);
        holds("0 - " + LEAST + " = " + LEAST, true);
        holds(LEAST + " < " + LEAST + " - 1", true);
        holds("32768*32768*32768*32768*4 > 0", true);
        long round = 99999L * 99999L * 99999L * 99999L;
        turn("turn 99999*99999*99999*99999 % 23 + 25", (int) (round % 23 + 25));
        turn("turn " + LEAST, 0);
        turn("turn " + LEAST + " - 1", 50);
        turn("turn 65536 * 65536", 50);
        turn("turn 65536 * 32768", 50);
        turn("turn 0 - 65536 * 65536", 0);
        turn("turn 65536 * 65536 / 65536 / 65536", 1);
        holds("65536 * 65536 = 0", false);
        holds("65536 * 65536 + 5 > 99999", true);
    }

    private static void heldToFifty() {
        sentence("the SUM of its first CLAUSE without a TEST, or whose TEST holds (0 without), held to 0 to 50");
        turn("turn 49", 49);
        turn("turn 50", 50);
        turn("turn 51", 50);
        turn("turn 99999", 50);
        turn("turn 0", 0);
        turn("turn 1", 1);
        turn("turn 0 - 1", 0);
        turn("turn 0 - 99999", 0);
        turn("turn 9 if 1=2", 0);
        turn("turn 9 if 1=2;turn 8 if 1=2", 0);
        turn("turn 9 if 1=2;turn 8 if 1=1;turn 7", 8);
        turn("turn 9 if 1=2;turn 8;turn 7 if 1=1", 8);
        sentence("TERM { (+ or -) TERM }; VALUE { (* or / or %) VALUE }");
        turn("turn 9 - 3 - 2", 4);
        turn("turn 99 / 5 / 2", 9);
        turn("turn 99 / 5 * 2", 38);
        turn("turn 2 * 7 % 4", 2);
        turn("turn 17 % 10 / 3", 2);
        turn("turn 1 + 2 * 3 - 8 / 4", 5);
    }

    private static void words() {
        sentence("hand, speed, tired, jug, turned, heat (in the HOUR), hour, road (1 on a road, else 0), held, sour (1 if .., else 0)");
        int[] due = {1, 3, 0, 1, 2, 0, 0, 0, 1, 0};
        for (int i = 0; i < 10; i++) {
            turn("turn " + WORDS[i], due[i]);
        }
        String dairy = "dairy 2 0 20;road 0 1 2;hand 0 9 0;hand 1 7 5;jug 1 19;jug 1 20;jug 1 0;heat 1 1 4;heat 1 2 3";
        int[][] later = {{1, 1, 1, 1}, {7, 7, 7, 7}, {0, 5, 10, 15}, {1, 1, 1, 1}, {20, 40, 50, 50}, {0, 7, 3, 0}, {0, 1, 2, 3},
            {1, 1, 0, 0}, {2, 2, 2, 2}, {1, 1, 1, 1}};
        for (int i = 0; i < 10; i++) {
            TurningMilk m = of(dairy, "turn " + WORDS[i]);
            m.take(1, 1);
            m.take(1, 0);
            m.go(1, 0);
            for (int hour = 0; hour < 4; hour++) {
                int was = m.jug(1, 2);
                m.hour();
                due(WORDS[i] + " in HOUR " + hour, m.jug(1, 2) - was, later[i][hour]);
            }
        }
        TurningMilk edge = of(dairy, "turn 1 + sour * 10");
        edge.take(1, 0);
        int[] turned = {20, 31};
        for (int hour = 0; hour < 2; hour++) {
            edge.hour();
            due("sour from SOUR on", edge.jug(0, 2), turned[hour]);
        }
    }

    public static void main(String[] args) {
        sixRules();
        ruleInForce();
        atMost400Bytes();
        bytesBehindTheEnd();
        twelveClauses();
        digits();
        bytesThatCantStand();
        bytesOfTests();
        tenDeep();
        sixtyParts();
        oneTextBehindAnother();
        byZero();
        goesRound();
        heldToFifty();
        words();
        finish();
    }
}
