import java.lang.reflect.Method;
import java.util.ArrayList;
import java.util.Arrays;
import java.util.List;
import java.util.Random;

/** Random runs, always the same, on the program and on the plain model: the answers are alike. */
public final class AgainstPlainTest {
    private static final int RUNS = 1500;
    private static int wrong = 0;

    private final Random random;
    private final TurningMilk milk = new TurningMilk();
    private final PlainMilk plain = new PlainMilk();
    private final List<String> calls = new ArrayList<>();
    private final int run;

    private AgainstPlainTest(int run) {
        this.run = run;
        random = new Random(run);
    }

    private int below(int n) {
        return random.nextInt(n);
    }

    private boolean oneIn(int n) {
        return below(n) == 0;
    }

    private int call(String name, int... args) throws ReflectiveOperationException {
        Class<?>[] kinds = new Class<?>[args.length];
        Object[] boxed = new Object[args.length];
        for (int i = 0; i < args.length; i++) {
            kinds[i] = int.class;
            boxed[i] = args[i];
        }
        Method theirs = TurningMilk.class.getMethod(name, kinds);
        Method ours = PlainMilk.class.getDeclaredMethod(name, kinds);
        int got = (Integer) theirs.invoke(milk, boxed);
        int due = (Integer) ours.invoke(plain, boxed);
        String told = Arrays.toString(args);
        calls.add(name + "(" + told.substring(1, told.length() - 1) + ") = " + got);
        if (got != due && due != 12345678) {
            wrong++;
            if (wrong <= 5) {
                System.out.println("run " + run + ": " + calls + ", due is " + due);
            }
        }
        return got;
    }

    private int feedText(String text, String what) throws ReflectiveOperationException {
        for (int i = 0; i < text.length() && i < 400; i += 20) {
            int[] five = new int[5];
            for (int j = 0; j < 20; j++) {
                int sign = i + j < text.length() ? text.charAt(i + j) : 0;
                five[j / 4] |= sign << 24 - 8 * (j % 4);
            }
            call("feed", five);
        }
        call("end", Math.min(400, text.length()));
        return call(what);
    }

    private String number(int least, int most) {
        if (oneIn(300)) {
            return "" + (oneIn(2) ? most + 1 : Math.max(0, least - 1));
        }
        return (oneIn(40) ? "00" : "") + (least + below(most - least + 1));
    }

    private String blank() {
        return oneIn(12) ? "  " : " ";
    }

    private String dairyText() {
        int places = 2 + below(5);
        StringBuilder s = new StringBuilder("dairy " + places + " " + number(0, 9) + " " + number(10, oneIn(2) ? 40 : 99));
        addRoads(s, places);
        int hands = countTo(5);
        for (int i = 0; i < hands; i++) {
            s.append(joint()).append("hand" + blank() + number(0, places - 1) + blank() + number(0, oneIn(2) ? 4 : 20) + blank() + number(0, 5));
        }
        int jugs = countTo(4);
        for (int i = 0; i < jugs; i++) {
            s.append(joint()).append("jug" + blank() + number(0, places - 1) + blank() + number(0, oneIn(4) ? 99 : 20));
        }
        int heats = oneIn(2) ? 0 : countTo(4);
        for (int i = 0; i < heats; i++) {
            int first = below(oneIn(2) ? 5 : 99);
            s.append(joint()).append("heat " + first + " " + number(first, 99) + " " + number(1, 5));
        }
        int wants = countTo(6);
        for (int i = 0; i < wants; i++) {
            int least = below(40);
            s.append(joint()).append("want " + number(0, places - 1) + " " + least + " " + number(least, 99) + " " + number(1, oneIn(2) ? 3 : 50));
        }
        return mutated(s, 7);
    }

    /** Mostly as many as there may be, seldom one more. */
    private int countTo(int most) {
        return oneIn(60) ? most + 1 : Math.max(below(most + 1), below(most + 1));
    }

    private String joint() {
        return oneIn(20) ? " ; " : ";";
    }

    private void addRoads(StringBuilder s, int places) {
        int tries = below(12);
        int roads = 0;
        for (int i = 0; i < tries; i++) {
            int a = below(places);
            int b = (a + 1 + below(places - 1)) % places;
            boolean isThere = s.indexOf("road " + a + " " + b) >= 0 || s.indexOf("road " + b + " " + a) >= 0;
            if (!isThere && roads < 8 || oneIn(100)) {
                s.append(joint()).append("road " + a + " " + b + " " + number(1, 5));
                roads++;
            }
        }
    }

    private String mutated(StringBuilder s, int odds) {
        if (oneIn(odds) && s.length() > 0) {
            String signs = "abdhjortuw0123456789;;[]<>=+-*/% \n";
            int at = below(s.length());
            switch (below(4)) {
                case 0: s.setCharAt(at, signs.charAt(below(signs.length()))); break;
                case 1: s.deleteCharAt(at); break;
                case 2: s.insert(at, signs.charAt(below(signs.length()))); break;
                default: s.setLength(at);
            }
        }
        return s.toString();
    }

    private String gap() {
        return oneIn(4) ? "" : " ";
    }

    private String value() {
        String[] words = {"hand", "speed", "tired", "jug", "turned", "heat", "hour", "road", "held", "sour"};
        return oneIn(3) ? "" + below(oneIn(9) ? 100000 : 7) : words[below(10)];
    }

    private String sum() {
        StringBuilder s = new StringBuilder(value());
        int more = below(oneIn(3) ? 5 : 2);
        for (int i = 0; i < more; i++) {
            s.append(gap()).append("*/%+-+-".charAt(below(7))).append(gap()).append(value());
        }
        return s.toString();
    }

    private String test(int deep) {
        StringBuilder s = new StringBuilder(fact(deep));
        while (oneIn(3)) {
            s.append(oneIn(2) ? " and " : " or ").append(fact(deep));
        }
        return s.toString();
    }

    private String fact(int deep) {
        if (deep < 12 && oneIn(4)) {
            return "not " + fact(deep + 1);
        }
        if (deep < 12 && oneIn(4)) {
            return "[" + gap() + test(deep + 1) + gap() + "]";
        }
        String[] signs = {"<", "<=", "=", ">=", ">"};
        return sum() + gap() + signs[below(5)] + gap() + sum();
    }

    private String ruleText() {
        StringBuilder s = new StringBuilder();
        int clauses = 1 + below(oneIn(8) ? 13 : 4);
        for (int i = 0; i < clauses; i++) {
            s.append(i == 0 ? "" : ";").append(gap()).append("turn ").append(sum());
            if (!oneIn(3)) {
                s.append(" if ").append(test(oneIn(4) ? 0 : 8));
            }
        }
        return mutated(s, 5);
    }

    private String deepRuleText() {
        StringBuilder s = new StringBuilder("turn 1 if ");
        int deep = 8 + below(5);
        int opened = 0;
        for (int i = 0; i < deep; i++) {
            boolean not = oneIn(2);
            s.append(not ? "not " : "[");
            opened += not ? 0 : 1;
        }
        s.append("held = 1").append("]".repeat(opened));
        return s.append(oneIn(2) ? " and not [tired < 3]" : "").toString();
    }

    private String longRuleText() {
        StringBuilder s = new StringBuilder("turn 1");
        int more = 50 + below(14);
        for (int i = 0; i < more; i++) {
            s.append("+-*".charAt(below(3))).append(below(9));
        }
        return s.append(oneIn(2) ? " if tired < 3 or 1=1" : "").toString();
    }

    private int near(int n) {
        if (oneIn(200)) {
            return oneIn(2) ? Integer.MIN_VALUE + below(2) : Integer.MAX_VALUE - below(2);
        }
        return oneIn(12) ? below(9) - 2 : below(Math.max(1, n));
    }

    private int place() {
        return near(plain.count(0));
    }

    private int hand() {
        return near(plain.count(4));
    }

    private int jug() {
        return near(plain.count(5));
    }

    private int want() {
        return near(plain.count(6));
    }

    private void act() throws ReflectiveOperationException {
        switch (below(10)) {
            case 0: case 1:
                if (oneIn(3)) {
                    call("hour");
                }
                break;
            case 2: case 3: call("take", hand(), jug()); break;
            case 4: call("put", hand(), jug()); break;
            case 5: case 6: call("handOn", jug(), hand()); break;
            case 7: call("go", hand(), place()); break;
            case 8: call("meet", want()); break;
            default:
                if (oneIn(2)) {
                    call("undo");
                }
        }
    }

    private void ask() throws ReflectiveOperationException {
        switch (below(17)) {
            case 0: call("hand", hand(), near(6)); break;
            case 1: call("jug", jug(), near(5)); break;
            case 2: call("want", want(), near(6)); break;
            case 3: call("ahead", oneIn(2) ? jug() : hand(), oneIn(9) ? below(4) + 98 : below(30), near(2)); break;
            case 4: call("way", place(), place(), near(2)); break;
            case 5: call("brings", hand(), jug(), place()); break;
            case 6: call("relay", jug(), place(), oneIn(9) ? below(1100) : below(40), oneIn(9) ? below(1100) : 20 + below(60), near(7)); break;
            case 7: call("match", near(7)); break;
            case 8:
                int n = 1 + below(oneIn(5) ? 11 : 6);
                call("rest", hand(), n, below(n + 1) + (oneIn(20) ? 1 : 0), near(2));
                break;
            case 9: case 10: tell(); break;
            case 11: call("who", near(3)); break;
            case 12: call("probe", near(2)); break;
            case 13: call("rows", 1 + below(oneIn(4) ? 13 : 5), below(oneIn(9) ? 303 : 40), oneIn(3) ? -1 : oneIn(2) ? below(13) : 20 + below(13)); break;
            case 14: call("ice", oneIn(9) ? below(63) : 1 + below(20)); break;
            case 15: call("years", oneIn(9) ? below(12) : 1 + below(3), oneIn(9) ? below(62) : 1 + below(20), near(2)); break;
            default: call("count", near(16)); break;
        }
    }

    /** Mostly a TEST that is so of some HAND. */
    private void tell() throws ReflectiveOperationException {
        int from = oneIn(9) ? below(1002) - 1 : below(30);
        int hours = oneIn(3) ? -1 : oneIn(12) ? below(23) - 1 : 1 + below(6);
        int at = oneIn(12) ? below(103) - 1 : below(20);
        int to = below(60);
        if (!oneIn(6) && plain.count(4) > 0 && hours > 0) {
            to = plain.carry(below(plain.count(4)), 0, from, at, hours, 0);
        }
        call("test", oneIn(20) ? 0 : from, hours, at, to);
    }

    private void other() throws ReflectiveOperationException {
        switch (below(6)) {
            case 0: feedText(oneIn(9) ? deepRuleText() : oneIn(9) ? longRuleText() : ruleText(), "rule"); break;
            case 1: case 2: call("force", near(plain.count(7) + 1) - 1); break;
            case 3: call("seed", oneIn(5) ? -below(3) : below(Integer.MAX_VALUE)); break;
            case 4: call("image", near(4)); break;
            default:
                if (oneIn(3)) {
                    call("back", near(4));
                }
        }
    }

    private void go() throws ReflectiveOperationException {
        if (oneIn(6)) {
            for (int i = 0; i < 20; i++) {
                ask();
                act();
            }
        }
        feedText(dairyText(), "dairy");
        feedText(ruleText(), "rule");
        while (calls.size() < 470) {
            if (plain.count(0) == 0 || oneIn(150)) {
                feedText(dairyText(), "dairy");
            }
            if (oneIn(12)) {
                other();
            } else if (oneIn(2)) {
                act();
            } else {
                ask();
            }
        }
    }

    public static void main(String[] args) throws ReflectiveOperationException {
        for (int run = 1; run <= RUNS; run++) {
            new AgainstPlainTest(run).go();
        }
        System.out.println(wrong == 0 ? "all answers are as due" : wrong + " answers are not as due");
        if (wrong != 0) {
            System.exit(1);
        }
    }
}
