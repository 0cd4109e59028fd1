import java.util.function.Supplier;
import java.util.function.ToIntFunction;

/** What the tests by hand share: answers that are due, texts on the TAPE, and calls by which nothing happens. */
abstract class Due {
    static final int MIN = Integer.MIN_VALUE;
    static final int MAX = Integer.MAX_VALUE;

    private static int wrong = 0;
    private static String sentence = "";

    /** The words of the document that the answers behind this are due by. */
    static void sentence(String words) {
        sentence = words;
    }

    static void due(String call, int got, int want) {
        if (got != want) {
            wrong(call + " answered " + got + ", due is " + want);
        }
    }

    static void wrong(String what) {
        wrong++;
        System.out.println("[" + sentence + "] " + what);
    }

    static void finish() {
        System.out.println(wrong == 0 ? "all answers are as due" : wrong + " answers are not as due");
        if (wrong != 0) {
            System.exit(1);
        }
    }

    /** Twenty bytes of a text, from a place on; behind its end they are 0. */
    static int feed(TurningMilk m, String text, int from) {
        int[] n = new int[5];
        for (int j = 0; j < 20; j++) {
            int sign = from + j < text.length() ? text.charAt(from + j) & 255 : 0;
            n[j / 4] |= sign << 24 - 8 * (j % 4);
        }
        return m.feed(n[0], n[1], n[2], n[3], n[4]);
    }

    /** The TAPE, which was empty, has this text. */
    static void say(TurningMilk m, String text) {
        for (int i = 0; i < text.length(); i += 20) {
            feed(m, text, i);
        }
        due("end(" + text.length() + ")", m.end(text.length()), text.length());
    }

    static int dairy(TurningMilk m, String text) {
        say(m, text);
        return m.dairy();
    }

    static int rule(TurningMilk m, String text) {
        say(m, text);
        return m.rule();
    }

    static TurningMilk of(String text) {
        TurningMilk m = new TurningMilk();
        int answer = dairy(m, text);
        if (answer < 0) {
            wrong(text + " is no dairy: " + answer);
        }
        return m;
    }

    /** A DAIRY with a RULE, which is IN FORCE. */
    static TurningMilk of(String text, String rule) {
        TurningMilk m = of(text);
        due("rule of '" + rule + "'", rule(m, rule), 0);
        m.force(0);
        return m;
    }

    static int fault(int place, int kind) {
        return -2 - (1 + 8 * place + kind);
    }

    static void isDairy(String text, int jugs) {
        due("dairy of '" + text + "'", dairy(new TurningMilk(), text), jugs);
    }

    static void noDairy(String text, int place, int kind) {
        due("dairy of '" + text + "'", dairy(new TurningMilk(), text), fault(place, kind));
    }

    static void isRule(String text) {
        due("rule of '" + text + "'", rule(new TurningMilk(), text), 0);
    }

    static void noRule(String text, int place, int kind) {
        due("rule of '" + text + "'", rule(new TurningMilk(), text), fault(place, kind));
    }

    static String times(String clause, int n) {
        return clause.repeat(n);
    }

    static void hours(TurningMilk m, int n) {
        for (int i = 0; i < n; i++) {
            m.hour();
        }
    }

    /**
     * HOUR 2: HAND 0 at PLACE 0 with JUG 0; HAND 1 at 1; HAND 2, with JUG 3, on the ROAD to 1, an HOUR to go; JUG 1 at 1,
     * TURNED 14; JUG 2 gone, WANT 2 met by it. Five ACTS and more to be UNDONE, TESTS, x, a RULE, two IMAGES, a TAPE.
     */
    static TurningMilk busy() {
        TurningMilk m = of("dairy 4 1 20;road 0 1 2;road 1 2 1;road 0 2 4;hand 0 3 4;hand 1 0 2;hand 0 6 0;jug 0 2;jug 1 10;jug 0 4"
                + ";jug 0 1;heat 1 2 2;want 2 8 14 9;want 1 0 12 5;want 0 3 9 7", "turn speed + heat");
        m.image(1);
        m.take(0, 0);
        m.take(2, 3);
        m.hour();
        m.go(2, 1);
        m.hour();
        m.test(2, 3, 0, 15);
        m.seed(77);
        m.image(3);
        m.meet(2);
        say(m, "dairy 5 3 30");
        return m;
    }

    /** No DAIRY, but a RULE IN FORCE, x and a TAPE. */
    static TurningMilk bare() {
        TurningMilk m = new TurningMilk();
        rule(m, "turn 1");
        m.force(0);
        m.seed(5);
        say(m, "dairy 5 3 30");
        return m;
    }

    /** All that is told of it, by what does not change it. */
    static String all(TurningMilk m) {
        StringBuilder told = new StringBuilder("count");
        for (int what = 0; what < 16; what++) {
            told.append(' ').append(m.count(what));
        }
        for (int hand = 0; hand < m.count(4); hand++) {
            told.append("; hand");
            for (int what = 0; what < 6; what++) {
                told.append(' ').append(m.hand(hand, what));
            }
        }
        for (int jug = 0; jug < m.count(5); jug++) {
            told.append("; jug");
            for (int what = 0; what < 5; what++) {
                told.append(' ').append(m.jug(jug, what));
            }
            told.append(" ahead ").append(m.ahead(jug, 3, 0));
        }
        for (int want = 0; want < m.count(6); want++) {
            told.append("; want");
            for (int what = 0; what < 6; what++) {
                told.append(' ').append(m.want(want, what));
            }
        }
        return told.append("; who ").append(m.who(2)).append("; years ").append(m.years(2, 3, 1)).toString();
    }

    /** What comes of it: all ACTS undone, the TAPE read, all IMAGES gone back to. */
    static String allThatComes(TurningMilk m) {
        StringBuilder told = new StringBuilder("undo");
        for (int i = 0; i <= 20; i++) {
            told.append(' ').append(m.undo()).append(' ').append(m.count(9)).append(' ').append(m.count(11));
            told.append(' ').append(m.hand(0, 3)).append(' ').append(m.hand(0, 1)).append(' ').append(m.jug(0, 2));
        }
        told.append("; tape ").append(m.dairy()).append(' ').append(m.count(0)).append(' ').append(m.count(15));
        for (int k = 0; k < 4; k++) {
            told.append("; back ").append(m.back(k)).append(' ').append(m.count(0)).append(' ').append(m.count(9));
            told.append(' ').append(m.count(8)).append(' ').append(m.count(12)).append(' ').append(m.count(14));
        }
        return told.toString();
    }

    static void alike(String call, String got, String due) {
        if (!got.equals(due)) {
            wrong("behind " + call + " it is {" + got + "}, due is {" + due + "}");
        }
    }

    /** The call has its answer, and later calls answer as if it had not been. */
    static void nothingHappens(Supplier<TurningMilk> made, String call, ToIntFunction<TurningMilk> doing, int answer) {
        TurningMilk asked = made.get();
        TurningMilk left = made.get();
        due(call, doing.applyAsInt(asked), answer);
        alike(call, all(asked), all(left));
        alike(call, allThatComes(asked), allThatComes(left));
    }
}
