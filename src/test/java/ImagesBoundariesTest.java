/** The edges of what is counted and of IMAGES: promises 30 to 32. */
public final class ImagesBoundariesTest extends Due {
    private static void counts() {
        sentence("What 0: PLACES, .., 15: bytes of the TAPE. NONE for others.");
        for (int what : new int[] {-1, -2, 16, 17, MIN, MAX}) {
            nothingHappens(Due::busy, "count(" + what + ")", m -> m.count(what), -1);
            nothingHappens(Due::bare, "count(" + what + ")", m -> m.count(what), -1);
        }
        int[] without = {0, 0, 0, 0, 0, 0, 0, 1, 0, 0, 0, 0, 0, 0, 5, 12};
        for (int what = 0; what < 16; what++) {
            due("count(" + what + ") without a DAIRY", bare().count(what), without[what]);
        }
        sentence("10: HEAT in it");
        TurningMilk m = of("dairy 2 0 10;heat 0 0 1;heat 1 2 5;heat 2 2 5;heat 99 99 2");
        int[] heat = {1, 5, 10, 0};
        for (int hour = 0; hour < 4; hour++) {
            due("HEAT in " + hour, m.count(10), heat[hour]);
            m.hour();
        }
        hours(m, 94);
        due("HEAT in 98", m.count(10), 0);
        m.hour();
        due("HEAT in 99", m.count(10), 2);
        m.hour();
        due("HEAT in 100", m.count(10), 0);
    }

    private static void refused() {
        sentence("IMAGES 0 to 3; An IMAGE is made: HOUR; NONE without it.");
        for (int k : new int[] {-1, 4, MIN, MAX}) {
            nothingHappens(Due::busy, "image(" + k + ")", m -> m.image(k), -1);
            nothingHappens(Due::bare, "image(" + k + ")", m -> m.image(k), -1);
        }
        sentence("All is as in an IMAGE: HOUR; NONE, and nothing happens, if it was never made, or without it.");
        for (int k : new int[] {-1, 4, MIN, MAX, 0, 2}) {
            nothingHappens(Due::busy, "back(" + k + ")", m -> m.back(k), -1);
        }
        for (int k = -1; k <= 4; k++) {
            int asked = k;
            nothingHappens(Due::bare, "back(" + k + ")", m -> m.back(asked), -1);
        }
    }

    private static void fourImages() {
        sentence("An IMAGE is made: HOUR; gone back to, it is as it was (these stay; nothing can be UNDONE then)");
        TurningMilk m = of("dairy 2 1 10;hand 0 3 2;jug 0 0");
        m.take(0, 0);
        for (int k = 0; k < 4; k++) {
            due("image(" + k + ")", m.image(k), k);
            m.hour();
        }
        due("ACTS stay", m.count(13), 5);
        int[] turned = {0, 3, 6, 10};
        for (int k : new int[] {3, 0, 2, 1, 1, 3}) {
            due("back(" + k + ")", m.back(k), k);
            due("HOUR", m.count(9), k);
            due("TURNED", m.jug(0, 2), turned[k]);
            due("TIRED", m.hand(0, 2), 2 * k);
            due("it is held", m.jug(0, 1), 0);
            due("ACTS", m.count(13), 0);
            due("undo()", m.undo(), -1);
            m.put(0, 0);
            m.hour();
        }
        due("in place of the one there was", m.image(0), 4);
        due("back(0)", m.back(0), 4);
        due("it stands", m.jug(0, 0), 0);
        m.hour();
        due("from then on", m.undo(), 0);
        due("HOUR", m.count(9), 4);
    }

    private static void whatAnImageHas() {
        sentence("all but the TAPE and the RULES, as it is (the RULE IN FORCE, too)");
        TurningMilk m = busy();
        String was = withoutTapeAndActs(m);
        due("image(0)", m.image(0), 2);
        due("x", m.seed(1), 77);
        due("TESTS", m.test(0, -1, 0, 0), 0);
        due("another TEST", m.test(7, 8, 9, 10), 1);
        m.end(0);
        rule(m, "turn 50");
        due("RULE", m.force(1), 0);
        m.hour();
        m.put(0, 0);
        dairy(m, "dairy 2 9 10;hand 0 1 1;jug 1 99");
        m.hour();
        say(m, "dairy 3 3 3");
        due("back(0)", m.back(0), 2);
        due("the TAPE stays", m.count(15), 11);
        due("RULES stay", m.count(7), 2);
        due("the RULE IN FORCE", m.count(8), 0);
        due("x", m.count(14), 77);
        due("TESTS", m.count(12), 1);
        due("the TEST", m.who(2), 1);
        due("PAY", m.count(11), 7);
        alike("back(0)", withoutTapeAndActs(m), was);
        due("force(1)", m.force(1), 0);
    }

    private static String withoutTapeAndActs(TurningMilk m) {
        String told = all(m);
        return told.substring(told.indexOf(";")) + m.way(0, 2, 0) + m.match(0) + m.brings(0, 1, 2) + m.ice(9) + m.rest(0, 5, 2, 1);
    }

    private static void imageWithoutADairy() {
        sentence("all .. as it is (no DAIRY, too)");
        TurningMilk m = bare();
        due("image(3)", m.image(3), 0);
        m.end(0);
        dairy(m, "dairy 2 9 10;hand 0 1 1;jug 1 99");
        m.hour();
        m.force(-1);
        m.seed(9);
        due("back(3)", m.back(3), 0);
        int[] due = {0, 0, 0, 0, 0, 0, 0, 1, 0, 0, 0, 0, 0, 0, 5, 0};
        for (int what = 0; what < 16; what++) {
            due("count(" + what + ")", m.count(what), due[what]);
        }
        due("hour()", m.hour(), -1);
        due("hand(0, 0)", m.hand(0, 0), -1);
        due("jug(0, 0)", m.jug(0, 0), -2);
        due("who(0)", m.who(0), -1);
        due("undo()", m.undo(), -1);
    }

    public static void main(String[] args) {
        counts();
        refused();
        fourImages();
        whatAnImageHas();
        imageWithoutADairy();
        finish();
    }
}
