/**
 * For each promise of the document, by its number: ordinary inputs, the edges that it names, and wrong inputs. What is
 * due is worked out by hand.
 */
public final class PromiseTest {
    private static final int NO_SUCH = -1, BAD_VALUE = -2, BAD_TEXT = -3, TOO_MANY = -4, NOT_POSSIBLE = -5, NONE = -6;
    private static final int PUMP = 0, FALL = 1, LOSS = 2, YIELD = 3, FLOW = 4, LOW = 5, HIGH = 6, BEGIN = 7, END = 8, DRY = 9;
    private static final int LEAST_INT = Integer.MIN_VALUE, MOST_INT = Integer.MAX_VALUE;

    private static int wrong = 0;
    private static int promise = 0;

    private static void due(String call, long got, long want) {
        if (got != want) {
            wrong++;
            System.out.println("promise " + promise + ": " + call + " answered " + got + ", due is " + want);
        }
    }

    private static LakePlant fresh(int number) {
        promise = number;
        return new LakePlant();
    }

    /** Puts a text on the pad, eight characters at a time. */
    private static void put(LakePlant x, String text) {
        for (int i = 0; i < text.length(); i += 8) {
            x.put(packed(text.substring(i, Math.min(i + 8, text.length()))));
        }
    }

    private static long packed(String text) {
        long characters = 0;
        for (int i = 0; i < text.length(); i++) {
            characters = characters << 8 | text.charAt(i);
        }
        return characters;
    }

    /** A fault of a text, on a new object. */
    private static void dueFault(String text, int want) {
        LakePlant x = new LakePlant();
        put(x, text);
        due("fault() of " + text, x.fault(), want);
        due("count(11) of " + text, x.count(11), text.length());
        due("carryOut() of " + text, x.carryOut(), want == NONE ? text.split(";").length : BAD_TEXT);
        due("count(11) then", x.count(11), want == NONE ? 0 : text.length());
        due("count(12) then", x.count(12), want == NONE ? 1 : 0);
    }

    /** How many orders of a text are carried out, on an object. */
    private static void dueDone(LakePlant x, String text, int want) {
        put(x, text);
        due("carryOut() of " + text, x.carryOut(), want);
    }

    private static void newObject() {
        LakePlant x = fresh(1);
        int[] first = {20, 20, 25, 90, 2, 20, 150, 80, 80, 50, 0, 0, 0};
        for (int i = 0; i < first.length; i++) {
            due("count(" + i + ")", x.count(i), first[i]);
        }
        for (int h = 0; h < 24; h++) {
            int[] hour = {100, 3, 100, 2, 0, 0, 0, 81 + h, 1000180, 0, NONE};
            for (int what = 0; what < hour.length; what++) {
                due("hour(" + h + ", " + what + ")", x.hour(h, what), hour[what]);
            }
        }
        due("ofContract(0, 0)", x.ofContract(0, 0), NO_SUCH);
        due("fault()", x.fault(), 0);
        due("undo()", x.undo(), NOT_POSSIBLE);
        due("restore(0)", x.restore(0), NOT_POSSIBLE);
        due("restore(1)", x.restore(1), NOT_POSSIBLE);
        LakePlant other = new LakePlant();
        other.price(0, 1);
        other.save(0);
        put(other, "a");
        due("hour(0, 0) beside another object", x.hour(0, 0), 100);
        due("restore(0) beside another object", x.restore(0), NOT_POSSIBLE);
        due("count(11) beside another object", x.count(11), 0);
        due("count(12) beside another object", x.count(12), 0);
    }

    private static void settings() {
        int[] first = {20, 20, 25, 90, 2, 20, 150, 80, 80, 50};
        int[] top = {30, 30, 100, 100, 30, 150, 200, 200, 200, 999};
        int[] bottom = {0, 0, 0, 0, 0, 0, 20, 0, 0, 0};
        for (int s = 0; s < 10; s++) {
            LakePlant x = fresh(2);
            due("set(" + s + ", top)", x.set(s, top[s]), first[s]);
            due("count(" + s + ")", x.count(s), top[s]);
            due("set(" + s + ", bottom)", x.set(s, bottom[s]), top[s]);
            due("count(" + s + ")", x.count(s), bottom[s]);
            due("set(" + s + ", same)", x.set(s, bottom[s]), bottom[s]);
            due("count(12)", x.count(12), 3);
            due("set(" + s + ", -1)", x.set(s, -1), BAD_VALUE);
            due("set(" + s + ", above)", x.set(s, s == LOW ? 201 : top[s] + 1), BAD_VALUE);
            due("set(" + s + ", least)", x.set(s, LEAST_INT), BAD_VALUE);
            due("set(" + s + ", most)", x.set(s, MOST_INT), BAD_VALUE);
            due("count(" + s + ")", x.count(s), bottom[s]);
            due("count(12)", x.count(12), 3);
            for (int other = 0; other < 10; other++) {
                due("count(" + other + ") beside " + s, x.count(other), other == s ? bottom[s] : first[other]);
            }
        }
        LakePlant x = fresh(2);
        due("set(-1, 0)", x.set(-1, 0), BAD_VALUE);
        due("set(10, 0)", x.set(10, 0), BAD_VALUE);
        due("set(least, 0)", x.set(LEAST_INT, 0), BAD_VALUE);
        due("set(most, 0)", x.set(MOST_INT, 0), BAD_VALUE);
        due("set(LOW, 151)", x.set(LOW, 151), NOT_POSSIBLE);
        due("set(LOW, 200)", x.set(LOW, 200), NOT_POSSIBLE);
        due("set(LOW, 201)", x.set(LOW, 201), BAD_VALUE);
        due("set(HIGH, 19)", x.set(HIGH, 19), NOT_POSSIBLE);
        due("set(HIGH, 20)", x.set(HIGH, 20), 150);
        due("set(LOW, 21)", x.set(LOW, 21), NOT_POSSIBLE);
        due("set(BEGIN, 200)", x.set(BEGIN, 200), 80);
        due("set(END, 200)", x.set(END, 200), 80);
        x.plan(23, -7);
        x.plan(0, 9);
        due("set(PUMP, 6)", x.set(PUMP, 6), NOT_POSSIBLE);
        due("set(PUMP, 7)", x.set(PUMP, 7), 20);
        due("set(FALL, 8)", x.set(FALL, 8), NOT_POSSIBLE);
        due("set(FALL, 9)", x.set(FALL, 9), 20);
        due("set(FALL, 31)", x.set(FALL, 31), BAD_VALUE);
        x.plan(0, 0);
        x.plan(23, 0);
        due("set(FALL, 0)", x.set(FALL, 0), 9);
        due("set(PUMP, 0)", x.set(PUMP, 0), 7);
        due("count(FALL)", x.count(FALL), 0);
    }

    private static void prices() {
        LakePlant x = fresh(3);
        due("price(0, 999)", x.price(0, 999), 100);
        due("price(0, 0)", x.price(0, 0), 999);
        due("price(23, 5)", x.price(23, 5), 100);
        due("hour(0, 0)", x.hour(0, 0), 0);
        due("hour(1, 0)", x.hour(1, 0), 100);
        due("hour(23, 0)", x.hour(23, 0), 5);
        due("price(-1, 5)", x.price(-1, 5), NO_SUCH);
        due("price(24, 1000)", x.price(24, 1000), NO_SUCH);
        due("price(least, -1)", x.price(LEAST_INT, -1), NO_SUCH);
        due("price(most, 5)", x.price(MOST_INT, 5), NO_SUCH);
        due("price(23, -1)", x.price(23, -1), BAD_VALUE);
        due("price(23, 1000)", x.price(23, 1000), BAD_VALUE);
        due("hour(23, 0)", x.hour(23, 0), 5);
        due("count(12)", x.count(12), 3);
        due("price(23, 5)", x.price(23, 5), 5);
        due("count(12)", x.count(12), 4);
    }

    private static void inflows() {
        LakePlant x = fresh(4);
        due("inflow(0, 99)", x.inflow(0, 99), 3);
        due("inflow(0, 0)", x.inflow(0, 0), 99);
        due("inflow(23, 5)", x.inflow(23, 5), 3);
        due("hour(0, 1)", x.hour(0, 1), 0);
        due("hour(1, 1)", x.hour(1, 1), 3);
        due("hour(23, 1)", x.hour(23, 1), 5);
        due("inflow(-1, 5)", x.inflow(-1, 5), NO_SUCH);
        due("inflow(24, 100)", x.inflow(24, 100), NO_SUCH);
        due("inflow(most, -1)", x.inflow(MOST_INT, -1), NO_SUCH);
        due("inflow(23, -1)", x.inflow(23, -1), BAD_VALUE);
        due("inflow(23, 100)", x.inflow(23, 100), BAD_VALUE);
        due("hour(23, 1)", x.hour(23, 1), 5);
        due("count(12)", x.count(12), 3);
        due("inflow(23, 5)", x.inflow(23, 5), 5);
        due("count(12)", x.count(12), 4);
    }

    private static void plans() {
        LakePlant x = fresh(5);
        due("plan(0, 20)", x.plan(0, 20), 100);
        due("plan(0, -20)", x.plan(0, -20), 120);
        due("plan(0, 0)", x.plan(0, 0), 80);
        due("plan(23, 7)", x.plan(23, 7), 100);
        due("hour(23, 2)", x.hour(23, 2), 107);
        due("hour(22, 2)", x.hour(22, 2), 100);
        due("plan(23, 21)", x.plan(23, 21), BAD_VALUE);
        due("plan(23, -21)", x.plan(23, -21), BAD_VALUE);
        due("plan(23, least)", x.plan(23, LEAST_INT), BAD_VALUE);
        due("plan(23, most)", x.plan(23, MOST_INT), BAD_VALUE);
        due("plan(24, 21)", x.plan(24, 21), NO_SUCH);
        due("plan(-1, 0)", x.plan(-1, 0), NO_SUCH);
        due("count(12)", x.count(12), 4);
        x.set(PUMP, 30);
        x.set(FALL, 0);
        due("hour(23, 2)", x.hour(23, 2), 107);
        due("count(FALL)", x.count(FALL), 20);
        x.plan(23, 0);
        due("set(FALL, 0)", x.set(FALL, 0), 20);
        due("plan(3, 1)", x.plan(3, 1), BAD_VALUE);
        due("plan(3, -30)", x.plan(3, -30), 100);
        due("plan(3, -31)", x.plan(3, -31), BAD_VALUE);
        due("hour(3, 2)", x.hour(3, 2), 70);
    }

    private static void contracts() {
        LakePlant x = fresh(6);
        due("contract(24, 0, 0, 0)", x.contract(24, 0, 0, 0), NO_SUCH);
        due("contract(-1, 1, 0, 0)", x.contract(-1, 1, 0, 0), NO_SUCH);
        due("contract(0, 0, 0, 0)", x.contract(0, 0, 0, 0), BAD_VALUE);
        due("contract(0, 31, 0, 0)", x.contract(0, 31, 0, 0), BAD_VALUE);
        due("contract(0, 1, -1, 0)", x.contract(0, 1, -1, 0), BAD_VALUE);
        due("contract(0, 1, 10000, 0)", x.contract(0, 1, 10000, 0), BAD_VALUE);
        due("contract(0, 1, 0, -1)", x.contract(0, 1, 0, -1), BAD_VALUE);
        due("contract(0, 1, 0, 10000)", x.contract(0, 1, 0, 10000), BAD_VALUE);
        due("count(10)", x.count(10), 0);
        due("count(12)", x.count(12), 0);
        due("contract(0, 1, 0, 9999)", x.contract(0, 1, 0, 9999), 0);
        due("contract(23, 30, 9999, 0)", x.contract(23, 30, 9999, 0), 1);
        for (int c = 2; c < 8; c++) {
            due("contract(5, 5, 5, 5)", x.contract(5, 5, 5, 5), c);
        }
        due("contract(5, 5, 5, 5), a ninth one", x.contract(5, 5, 5, 5), TOO_MANY);
        due("contract(24, 5, 5, 5), a ninth one", x.contract(24, 5, 5, 5), NO_SUCH);
        due("contract(5, 0, 5, 5), a ninth one", x.contract(5, 0, 5, 5), BAD_VALUE);
        due("count(10)", x.count(10), 8);
        due("count(12)", x.count(12), 6);
    }

    private static void drops() {
        LakePlant x = fresh(7);
        due("drop(0)", x.drop(0), NO_SUCH);
        for (int c = 0; c < 8; c++) {
            x.contract(c, c + 10, c + 100, c + 1000);
        }
        due("drop(-1)", x.drop(-1), NO_SUCH);
        due("drop(8)", x.drop(8), NO_SUCH);
        due("drop(least)", x.drop(LEAST_INT), NO_SUCH);
        due("drop(3)", x.drop(3), 7);
        for (int c = 0; c < 7; c++) {
            int was = c < 3 ? c : c + 1;
            due("ofContract(" + c + ", 0)", x.ofContract(c, 0), was);
            due("ofContract(" + c + ", 1)", x.ofContract(c, 1), was + 10);
            due("ofContract(" + c + ", 2)", x.ofContract(c, 2), was + 100);
            due("ofContract(" + c + ", 3)", x.ofContract(c, 3), was + 1000);
        }
        due("ofContract(7, 0)", x.ofContract(7, 0), NO_SUCH);
        due("drop(7)", x.drop(7), NO_SUCH);
        due("drop(6)", x.drop(6), 6);
        due("day(8)", x.day(8), 6);
        due("contract(20, 1, 2, 3)", x.contract(20, 1, 2, 3), 6);
        due("ofContract(6, 3)", x.ofContract(6, 3), 3);
        due("ofContract(5, 0)", x.ofContract(5, 0), 6);
        for (int left = 6; left >= 0; left--) {
            due("drop(0)", x.drop(0), left);
        }
        due("drop(0)", x.drop(0), NO_SUCH);
    }

    /**
     * A day on which the best plan is plain to see: nothing flows in or is lost, there are 20 units above LOW, none are
     * asked for in the end, and only two hours pay.
     */
    private static LakePlant plainDay(int number) {
        LakePlant x = fresh(number);
        x.set(FLOW, 0);
        x.set(LOSS, 0);
        x.set(YIELD, 100);
        x.set(LOW, 0);
        x.set(BEGIN, 25);
        x.set(END, 0);
        x.set(FALL, 10);
        x.set(PUMP, 0);
        put(x, "p0-23=0;i0-23=0;p7=10;p15=20");
        x.carryOut();
        return x;
    }

    private static void adopts() {
        LakePlant x = plainDay(8);
        due("adopt()", x.adopt(), 2);
        for (int h = 0; h < 24; h++) {
            due("hour(" + h + ", 2)", x.hour(h, 2), h == 7 || h == 15 ? 110 : 100);
        }
        due("day(0)", x.day(0), 10000300);
        due("count(12)", x.count(12), 6);
        due("adopt() again", x.adopt(), 0);
        x.plan(3, 1);
        x.plan(7, 9);
        due("adopt() after two other plans", x.adopt(), 2);
        due("hour(3, 2)", x.hour(3, 2), 100);
        due("undo()", x.undo(), 5);
        due("hour(3, 2) after undo()", x.hour(3, 2), 101);
        due("hour(7, 2) after undo()", x.hour(7, 2), 109);
        x.set(END, 26);
        due("adopt() without a plan", x.adopt(), NOT_POSSIBLE);
        due("hour(3, 2)", x.hour(3, 2), 101);
        due("undo() of set", x.undo(), 4 + 1);
        due("count(END)", x.count(END), 0);
        x = plainDay(8);
        put(x, "p0=30;p23=40");
        x.carryOut();
        due("adopt(): the first hour, the last one and hour 15", x.adopt(), 3);
        due("hour(0, 2)", x.hour(0, 2), 110);
        due("hour(23, 2)", x.hour(23, 2), 110);
        due("hour(15, 2): of 5 units for 20", x.hour(15, 2), 105);
        x = fresh(8);
        for (int i = 0; i < 3; i++) {
            due("adopt() of a new day, then again", x.adopt() == 0 ? 1 : 0, i == 0 ? 0 : 1);
            due("count(12): also if nothing is different", x.count(12), i + 1);
        }
    }

    private static void hours() {
        LakePlant x = fresh(9);
        due("hour(-1, 0)", x.hour(-1, 0), NO_SUCH);
        due("hour(24, 11)", x.hour(24, 11), NO_SUCH);
        due("hour(most, 0)", x.hour(MOST_INT, 0), NO_SUCH);
        due("hour(0, -1)", x.hour(0, -1), BAD_VALUE);
        due("hour(23, 11)", x.hour(23, 11), BAD_VALUE);
        due("hour(0, least)", x.hour(0, LEAST_INT), BAD_VALUE);

        x.price(1, 33);
        x.plan(1, 7);
        due("7 * 33 * 0.90, rounded down", x.hour(1, 8), 1000207);
        x.plan(1, -7);
        due("hour(1, 4)", x.hour(1, 4), 7);
        due("hour(1, 5): 1.75 rounded up", x.hour(1, 5), 2);
        due("hour(1, 3): FLOW also while it pumps", x.hour(1, 3), 2);
        due("hour(1, 7): 81 + 7 - 2 + 3 - 2", x.hour(1, 7), 87);
        due("hour(1, 8): 59 - 231", x.hour(1, 8), 1000000 + 59 - 231);
        x.plan(1, -4);
        due("hour(1, 5): 1 exactly", x.hour(1, 5), 1);
        x.plan(1, -1);
        due("hour(1, 5): of one", x.hour(1, 5), 1);
        x.set(LOSS, 1);
        due("hour(1, 5): one hundredth of one", x.hour(1, 5), 1);
        x.set(LOSS, 0);
        due("hour(1, 5) without a loss", x.hour(1, 5), 0);
        x.set(LOSS, 100);
        x.plan(1, -20);
        due("hour(1, 5) with all lost", x.hour(1, 5), 20);
        due("hour(1, 7)", x.hour(1, 7), 82);
        x.plan(1, 1);
        due("hour(1, 3): at least FLOW", x.hour(1, 3), 2);
        due("hour(1, 2)", x.hour(1, 2), 101);
        due("hour(1, 9)", x.hour(1, 9), 0);
        levels();
        moneyOfContracts();
        troubles();
        causes();
    }

    private static void levels() {
        LakePlant x = fresh(9);
        x.set(BEGIN, 30);
        x.plan(0, 20);
        due("hour(0, 3): what is above LOW, the inflow too", x.hour(0, 3), 13);
        due("hour(0, 7)", x.hour(0, 7), 20);
        due("hour(0, 9): cut", x.hour(0, 9), 2);
        x.set(BEGIN, 37);
        due("hour(0, 3): just enough", x.hour(0, 3), 20);
        due("hour(0, 9)", x.hour(0, 9), 0);
        x.set(BEGIN, 10);
        due("hour(0, 3): none below LOW", x.hour(0, 3), 0);
        due("hour(0, 7)", x.hour(0, 7), 13);
        due("hour(0, 9): dry", x.hour(0, 9), 1);
        due("hour(0, 8)", x.hour(0, 8), 1000000 - 50);
        x.set(BEGIN, 18);
        due("hour(0, 3): one of the two of FLOW", x.hour(0, 3), 1);
        due("hour(0, 8): dry, but one is sold", x.hour(0, 8), 1000000 + 90 - 50);
        due("hour(0, 9)", x.hour(0, 9), 1);
        x.set(FLOW, 0);
        x.plan(0, 0);
        due("hour(0, 9): not dry without FLOW", x.hour(0, 9), 0);

        x = fresh(9);
        x.set(BEGIN, 200);
        due("hour(0, 6): 200 + 3 - 2 - 150", x.hour(0, 6), 51);
        due("hour(0, 7)", x.hour(0, 7), 150);
        due("hour(0, 9)", x.hour(0, 9), 4);
        due("hour(1, 6)", x.hour(1, 6), 1);
        x.set(BEGIN, 149);
        due("hour(0, 6): just HIGH", x.hour(0, 6), 0);
        due("hour(0, 9)", x.hour(0, 9), 0);
        x.plan(0, 20);
        x.inflow(0, 21);
        due("hour(0, 6): spilled only behind what is let down", x.hour(0, 6), 0);
        due("hour(0, 7)", x.hour(0, 7), 150);
    }

    private static void moneyOfContracts() {
        LakePlant x = fresh(9);
        x.contract(0, 2, 10, 1000);
        x.contract(0, 3, 4000, 300);
        x.contract(1, 2, 7, 0);
        due("hour(0, 8)", x.hour(0, 8), 1000000 + 180 + 10 - 300);
        due("hour(1, 8)", x.hour(1, 8), 1000000 + 180 + 7);
        x.plan(0, 3);
        due("hour(0, 8)", x.hour(0, 8), 1000000 + 270 + 10 + 4000);
        x.set(YIELD, 0);
        due("hour(0, 8)", x.hour(0, 8), 1000000 + 10 + 4000);
    }

    private static void troubles() {
        LakePlant x = fresh(9);
        x.contract(0, 30, 0, 0);
        x.contract(1, 30, 0, 0);
        x.contract(2, 30, 0, 0);
        x.set(BEGIN, 20);
        x.set(FLOW, 5);
        x.plan(1, 10);
        x.inflow(1, 7);
        x.inflow(2, 99);
        x.set(HIGH, 30);
        due("dry goes ahead of cut and missed", x.hour(0, 9), 1);
        due("cut goes ahead of missed", x.hour(1, 9), 2);
        due("missed goes ahead of spilled", x.hour(2, 9), 3);
        due("hour(2, 6)", x.hour(2, 6), 99 - 5 - 10);
        x.drop(2);
        due("hour(2, 9): then spilled", x.hour(2, 9), 4);
        due("hour(3, 9)", x.hour(3, 9), 0);
    }

    private static void causes() {
        LakePlant x = fresh(9);
        x.set(HIGH, 90);
        x.inflow(3, 40);
        x.inflow(5, 40);
        x.contract(2, 3, 0, 0);
        x.contract(3, 3, 0, 0);
        x.contract(4, 3, 0, 0);
        x.contract(5, 3, 0, 0);
        x.contract(6, 2, 0, 0);
        x.contract(7, 3, 0, 0);
        due("hour(2, 10): nothing was spilled earlier", x.hour(2, 10), NONE);
        due("hour(3, 6)", x.hour(3, 6) > 0 ? 1 : 0, 1);
        due("hour(3, 10): the hour itself is not earlier", x.hour(3, 10), NONE);
        due("hour(4, 10): it spilled, though its trouble was another", x.hour(4, 10), 3);
        due("hour(5, 10): in hour 4 one more was spilled", x.hour(5, 10), 4);
        due("hour(6, 9)", x.hour(6, 9), 4);
        due("hour(6, 10): no cause of what is spilled", x.hour(6, 10), NONE);
        due("hour(7, 10)", x.hour(7, 10), 6);
        due("hour(8, 10)", x.hour(8, 10), NONE);
        x.set(FLOW, 3);
        x.drop(3);
        x.inflow(5, 0);
        x.plan(7, 20);
        due("hour(7, 9): let down and met", x.hour(7, 9), 0);
        due("hour(7, 10): without trouble", x.hour(7, 10), NONE);
        x.set(LOW, 90);
        x.inflow(7, 2);
        due("hour(7, 9): dry", x.hour(7, 9), 1);
        due("hour(7, 10)", x.hour(7, 10), 3);
        x.inflow(7, 13);
        due("hour(7, 9): cut", x.hour(7, 9), 2);
        due("hour(7, 10)", x.hour(7, 10), 3);
    }

    private static void contractsAnswers() {
        LakePlant x = fresh(10);
        due("ofContract(0, 5)", x.ofContract(0, 5), NO_SUCH);
        x.contract(7, 5, 60, 70);
        x.contract(8, 2, 9999, 0);
        int[] first = {7, 5, 60, 70, 0};
        int[] second = {8, 2, 9999, 0, 1};
        for (int what = 0; what < 5; what++) {
            due("ofContract(0, " + what + ")", x.ofContract(0, what), first[what]);
            due("ofContract(1, " + what + ")", x.ofContract(1, what), second[what]);
        }
        due("ofContract(0, -1)", x.ofContract(0, -1), BAD_VALUE);
        due("ofContract(0, 5)", x.ofContract(0, 5), BAD_VALUE);
        due("ofContract(2, 5)", x.ofContract(2, 5), NO_SUCH);
        due("ofContract(-1, 0)", x.ofContract(-1, 0), NO_SUCH);
        due("ofContract(most, 0)", x.ofContract(MOST_INT, 0), NO_SUCH);
        x.plan(7, 4);
        due("ofContract(0, 4)", x.ofContract(0, 4), 0);
        x.plan(7, 5);
        due("ofContract(0, 4): just its units", x.ofContract(0, 4), 1);
        x.set(LOW, 97);
        due("ofContract(0, 4): cut", x.ofContract(0, 4), 0);
    }

    private static void days() {
        LakePlant x = fresh(11);
        due("day(-1)", x.day(-1), BAD_VALUE);
        due("day(11)", x.day(11), BAD_VALUE);
        due("day(least)", x.day(LEAST_INT), BAD_VALUE);
        int[] first = {10004320, 48, 0, 0, 0, 104, 0, 0, 0, 1, 72};
        for (int what = 0; what < first.length; what++) {
            due("day(" + what + ") of a new day", x.day(what), first[what]);
        }
        x.set(BEGIN, 20);
        x.set(FLOW, 4);
        x.plan(0, -8);
        x.plan(1, 20);
        x.plan(2, 20);
        x.inflow(3, 99);
        x.inflow(4, 99);
        x.inflow(5, 0);
        x.contract(1, 8, 100, 10);
        x.contract(1, 4, 100, 10);
        x.contract(2, 2, 100, 20);
        x.contract(2, 5, 100, 20);
        // Hour 0: 20 + 6 + 3, 4 let down, 25. Hour 1: 8 let down, 20. Hour 2: 3 let down, dry.
        // Hour 3: 119, 4 let down, 115. Hour 4: 214, 4 let down, 60 spilled. Hour 5: 146. Then 18 times one less.
        int[] then = {10000000 + 360 - 800 + 720 + 200 + 270 + 100 - 20 - 50 + 21 * 360,
            4 + 8 + 3 + 21 * 4, 8, 2, 60, 128, 1, 2, 1, 1, 72 + 96 + 96 - 3};
        for (int what = 0; what < then.length; what++) {
            due("day(" + what + ")", x.day(what), then[what]);
        }
        x.set(END, 128);
        due("day(9): just END", x.day(9), 1);
        x.set(END, 129);
        due("day(9): below END", x.day(9), 0);
        due("day(0): the same below END", x.day(0), then[0]);
        x.set(DRY, 999);
        due("day(0): a greater fine for dry hours", x.day(0), then[0] + 50 - 999);
    }

    private static void troubledSets() {
        LakePlant x = fresh(12);
        due("troubled(0)", x.troubled(0), BAD_VALUE);
        due("troubled(5)", x.troubled(5), BAD_VALUE);
        due("troubled(-1)", x.troubled(-1), BAD_VALUE);
        for (int trouble = 1; trouble <= 4; trouble++) {
            due("troubled(" + trouble + ") of a new day", x.troubled(trouble), 0);
        }
        x.set(BEGIN, 20);
        x.set(FLOW, 3);
        x.inflow(0, 2);
        x.plan(1, 4);
        x.contract(2, 4, 0, 0);
        x.contract(23, 30, 0, 0);
        x.inflow(3, 99);
        x.inflow(4, 99);
        due("troubled(1)", x.troubled(1), 1);
        due("troubled(2)", x.troubled(2), 1 << 1);
        due("troubled(3)", x.troubled(3), 1 << 2 | 1 << 23);
        due("troubled(4)", x.troubled(4), 1 << 4);
    }

    private static void counts() {
        LakePlant x = fresh(13);
        due("count(-1)", x.count(-1), BAD_VALUE);
        due("count(13)", x.count(13), BAD_VALUE);
        due("count(least)", x.count(LEAST_INT), BAD_VALUE);
        for (int s = 0; s < 10; s++) {
            x.set(s, 21 + s);
        }
        for (int s = 0; s < 10; s++) {
            due("count(" + s + ")", x.count(s), 21 + s);
        }
        x.contract(1, 1, 1, 1);
        put(x, "p1=");
        due("count(10)", x.count(10), 1);
        due("count(11)", x.count(11), 3);
        due("count(12)", x.count(12), 6);
        x.undo();
        due("count(10)", x.count(10), 0);
        due("count(12)", x.count(12), 5);
    }

    private static void bestMoney() {
        LakePlant x = plainDay(14);
        due("best(): ten units in each of the two hours", x.best(), 10000300);
        x.set(END, 10);
        due("best(): five of the 25 for the lower price", x.best(), 10000250);
        x.set(END, 25);
        due("best(): nothing to sell", x.best(), 10000000);
        x.set(END, 26);
        due("best(): more asked for than there is", x.best(), NONE);
        x.inflow(23, 1);
        due("best(): one more flows in", x.best(), 10000000);
        x.set(PUMP, 10);
        x.set(END, 25);
        due("best(): pumped for nothing, up to 150, then both sold", x.best(), 10000300);
        due("day(0): nothing changes", x.day(0), 10000000);
        x.contract(9, 10, 0, 400);
        due("best() with a contract that it can meet", x.best(), 10000300);
        x.contract(10, 11, 0, 40);
        due("best() with one that it can't", x.best(), 10000260);
        x.set(HIGH, 24);
        due("best(): END above HIGH", x.best(), NONE);
        due("best() of a new day", new LakePlant().best(), 10000000 + 24 * 180 + 24 * 90);
        x = plainDay(14);
        x.set(BEGIN, 10);
        due("best(): all that there is, in one hour", x.best(), 10000200);
        x.set(LOW, 4);
        due("best(): down to LOW", x.best(), 10000120);
        x.set(BEGIN, 200);
        x.set(FALL, 30);
        due("best(): FALL in both hours", x.best(), 10000900);
        x.set(FLOW, 29);
        due("best(): FLOW takes it all ahead of hour 7, and 18 hours are dry", x.best(), 10000000 - 18 * 50);
        x.set(FLOW, 9);
        x.set(FALL, 10);
        x.set(DRY, 0);
        due("best(): one more than FLOW in both hours", x.best(), 10000300);
        x.set(FALL, 9);
        due("best(): no more than FLOW", x.best(), 10000270);
        x.set(FALL, 3);
        due("best(): FLOW, though it is above FALL", x.best(), 10000270);
        dearestPumps();
        contractsInTheBest();
    }

    /** As much as there can be in the lake: all of it has to be kept, so as much as can be has to be pumped. */
    private static void dearestPumps() {
        LakePlant x = plainDay(14);
        x.set(HIGH, 200);
        x.set(PUMP, 30);
        x.set(BEGIN, 20);
        x.set(END, 170);
        put(x, "p0-23=100;p2-6=1");
        x.carryOut();
        due("best(): 30 in each of the five cheap hours", x.best(), 10000000 - 150);
        due("bestPlan(2)", x.bestPlan(2), 70);
        x.set(FALL, 30);
        x.price(2, 200);
        due("best(): 10 bought, 30 sold dear, then filled", x.best(), 10000000 - 10 * 100 + 30 * 200 - 120 - 50 * 100);
        x.set(BEGIN, 200);
        x.set(END, 0);
        put(x, "p0-22=0;p23=10;i0=99");
        x.carryOut();
        due("best(): all for nothing, and 30 sold", x.best(), 10000300);
        due("bestPlan(0): the least, though the lake is full", x.bestPlan(0), 70);
        due("highest()", x.highest(), 200);
    }

    private static void contractsInTheBest() {
        LakePlant x = plainDay(14);
        x.contract(3, 8, 500, 0);
        due("best() with a contract that pays more", x.best(), 10000000 + 500 + 7 * 10 + 10 * 20);
        x.contract(3, 9, 0, 60);
        due("best() with a fine, too", x.best(), 10000000 + 500 + 6 * 10 + 10 * 20);
        x.drop(0);
        due("best() without the first one: the fine is still dearer", x.best(), 10000000 + 6 * 10 + 10 * 20);
        x.undo();
        due("best() after undo()", x.best(), 10000000 + 500 + 6 * 10 + 10 * 20);
    }

    private static void bestPlans() {
        LakePlant x = plainDay(15);
        due("bestPlan(-1)", x.bestPlan(-1), NO_SUCH);
        due("bestPlan(24)", x.bestPlan(24), NO_SUCH);
        due("bestPlan(0): nothing gained by pumping none", x.bestPlan(0), 100);
        due("bestPlan(7)", x.bestPlan(7), 110);
        due("bestPlan(15)", x.bestPlan(15), 110);
        x.set(END, 10);
        due("bestPlan(7)", x.bestPlan(7), 105);
        x.set(PUMP, 10);
        due("bestPlan(0): of several the least", x.bestPlan(0), 90);
        due("bestPlan(6)", x.bestPlan(6), 90);
        due("bestPlan(7)", x.bestPlan(7), 110);
        due("bestPlan(23)", x.bestPlan(23), 90);
        due("hour(0, 2): nothing changes", x.hour(0, 2), 100);
        x.set(FALL, 30);
        x.set(FLOW, 4);
        x.set(PUMP, 0);
        due("bestPlan(3): FLOW leaves too little for END", x.bestPlan(3), NONE);
        x.set(END, 0);
        x.set(HIGH, 200);
        x.set(BEGIN, 200);
        due("bestPlan(3): the least of what FLOW does anyway", x.bestPlan(3), 100);
        x.set(END, 200);
        due("bestPlan(7) without a plan", x.bestPlan(7), NONE);
        due("bestPlan(24) without a plan", x.bestPlan(24), NO_SUCH);
        x = plainDay(15);
        x.set(END, 26);
        due("bestPlan(0) without a plan", x.bestPlan(0), NONE);
        x.inflow(0, 1);
        due("bestPlan(0): END just reached", x.bestPlan(0), 100);

        x = plainDay(15);
        x.set(END, 15);
        put(x, "p0-23=5");
        x.carryOut();
        due("bestPlan(22): all hours pay alike, so as late as may be", x.bestPlan(22), 100);
        due("bestPlan(23)", x.bestPlan(23), 110);
    }

    private static void worths() {
        LakePlant x = plainDay(16);
        x.set(END, 10);
        due("worth(0)", x.worth(0), 10000000);
        due("worth(5): sold for 10", x.worth(5), 10000050);
        due("worth(6): the sixth can't be sold", x.worth(6), 10000050);
        due("worth(-5)", x.worth(-5), 10000000 - 50);
        due("worth(-6): one less for 20", x.worth(-6), 10000000 - 70);
        due("worth(-15)", x.worth(-15), 10000000 - 250);
        due("worth(-16): no plan with it", x.worth(-16), NONE);
        due("worth(-25): BEGIN 0", x.worth(-25), NONE);
        due("worth(-26)", x.worth(-26), BAD_VALUE);
        due("worth(175): BEGIN 200", x.worth(175), 10000050);
        due("worth(176)", x.worth(176), BAD_VALUE);
        due("worth(201)", x.worth(201), BAD_VALUE);
        due("worth(-201)", x.worth(-201), BAD_VALUE);
        due("worth(least)", x.worth(LEAST_INT), BAD_VALUE);
        due("worth(most)", x.worth(MOST_INT), BAD_VALUE);
        due("count(BEGIN): nothing changes", x.count(BEGIN), 25);
        x.set(BEGIN, 9);
        due("worth(1): no plan without it", x.worth(1), NONE);
        due("worth(192): BAD_VALUE goes ahead", x.worth(192), BAD_VALUE);
        x.set(BEGIN, 0);
        due("worth(200): no plan without it", x.worth(200), NONE);
        x.set(END, 0);
        due("worth(200)", x.worth(200), 10000300);
        due("worth(-1)", x.worth(-1), BAD_VALUE);
        x.set(BEGIN, 200);
        due("worth(-200)", x.worth(-200), 10000000 - 300);
    }

    private static void highestLevels() {
        LakePlant x = fresh(17);
        due("highest() of a new day", x.highest(), 150);
        x.set(HIGH, 200);
        x.set(BEGIN, 0);
        x.set(PUMP, 0);
        due("highest(): 3 an hour for 6 hours, then to LOW, then 1 an hour", x.highest(), 20 + 17);
        x.set(PUMP, 1);
        due("highest(): all lost of one", x.highest(), 20 + 17);
        x.set(PUMP, 2);
        due("highest(): one of two, so 4 an hour for 5 hours, then 2", x.highest(), 20 + 19 * 2);
        x.set(LOSS, 0);
        x.set(PUMP, 4);
        due("highest(): 7 an hour for 2 hours, then to LOW, then 5 an hour", x.highest(), 20 + 21 * 5);
        x.set(PUMP, 30);
        due("highest(): HIGH", x.highest(), 200);
        x.plan(23, 20);
        due("highest(): by any plan", x.highest(), 200);
        x.inflow(23, 0);
        x.set(FLOW, 30);
        x.set(PUMP, 20);
        due("highest(): FLOW in the last hour", x.highest() < 200 ? 1 : 0, 1);
        x.set(HIGH, 20);
        x.set(BEGIN, 200);
        due("highest(): also where BEGIN is above HIGH", x.highest(), 20);
    }

    private static void puts() {
        LakePlant x = fresh(18);
        due("put(0)", x.put(0), BAD_VALUE);
        due("put(32)", x.put(32), BAD_VALUE);
        due("put(127)", x.put(127), BAD_VALUE);
        due("put(-1)", x.put(-1), BAD_VALUE);
        due("put(255)", x.put(255), BAD_VALUE);
        due("put(33)", x.put(33), 1);
        due("put(126)", x.put(126), 2);
        due("put: a gap of 0", x.put(0x610061L), BAD_VALUE);
        due("put: a bit above a 0", x.put(0x0100000000000061L), BAD_VALUE);
        due("put: the top bit above a 0", x.put(0x8000000000000061L), BAD_VALUE);
        due("put: a 0 last", x.put(0x6100L), BAD_VALUE);
        due("put: a wrong code first", x.put(0x2061L), BAD_VALUE);
        due("put: a wrong code among eight", x.put(0x6161617F61616161L), BAD_VALUE);
        due("put: the first of eight above 127", x.put(0x8061616161616161L), BAD_VALUE);
        due("put: eight", x.put(0x7E21616161616161L), 10);
        due("count(11)", x.count(11), 10);
        x.wipe();
        due("put p1=", x.put(packed("p1=")), 3);
        due("put 2;u3-4=5", x.put(packed("2;u3-4=5")), 11);
        due("carryOut(): in their order", x.carryOut(), 2);
        due("hour(1, 0)", x.hour(1, 0), 2);
        due("hour(3, 2)", x.hour(3, 2), 105);
        for (int length = 8; length <= 72; length += 8) {
            due("put to " + length, x.put(packed("aaaaaaaa")), length);
        }
        due("put to 79", x.put(packed("aaaaaaa")), 79);
        due("put to 81", x.put(packed("aa")), TOO_MANY);
        due("put(0) at 79", x.put(0), BAD_VALUE);
        due("count(11)", x.count(11), 79);
        due("put to 80", x.put('a'), 80);
        due("put to 88", x.put(packed("aaaaaaaa")), TOO_MANY);
        due("put a space at 80", x.put(32), BAD_VALUE);
        due("count(11)", x.count(11), 80);
        due("count(12): no change", x.count(12), 1);
    }

    private static void wipes() {
        LakePlant x = fresh(19);
        due("wipe()", x.wipe(), 0);
        put(x, "p1=2;a");
        due("wipe()", x.wipe(), 6);
        due("count(11)", x.count(11), 0);
        due("fault()", x.fault(), 0);
        due("wipe()", x.wipe(), 0);
        due("count(12): no change", x.count(12), 0);
        due("put", x.put(packed("a;a")), 3);
        due("fault()", x.fault(), NONE);
    }

    private static void faults() {
        fresh(20);
        String[] right = {"a", "a;a", "p0=0", "p23=999", "i0-23=99", "u1=5", "u1=-5", "u1-2=-0", "c1:2+3-4", "c0:1+0-0",
            "c1:30+999-999;u1-2=3;i5=6;p7-8=9;a"};
        for (String text : right) {
            dueFault(text, NONE);
        }
        String[] wrongAt = {"x|0", "A|0", ";|0", "0|0", "-|0", "a;;|2", "ab|1", "aa|1", "a0|1", "a=|1", "p=|1", "p-1=0|1",
            "pp|1", "p00=1|2", "p01=1|2", "p1000=1|4", "p9999|4", "p1+|2", "p1:|2", "p1;|2", "p1-=|3", "p1--2|3", "p1-02|4",
            "p1-2-3|4", "p1-1000|6", "p1==|3", "p1=-1|3", "i1=-1|3", "p1=+|3", "p1=01|4", "p1=1000|6", "p1=1-|4", "p1=1,|4",
            "p1=1a|4", "u1=--1|4", "u1=-01|5", "u1=-1000|7", "u-1=1|1", "u1=+1|3", "c:1|1", "c-1|1", "c1-2:|2", "c1=|2",
            "c1:+|3", "c1:2-|4", "c1:2+-|5", "c1:2+3+|6", "c1:2+3--|7", "c1:2+3-4-|8", "c1:2+3-1000|10", "c1:02|4",
            "c01|2", "c1:2+3-4a|8", "a;x|2", "a;p1=1x|6", "a;a;a;c|7", "i|1", "a;|2", "p|1", "p1|2", "p1-|3", "p1-2|4",
            "p1=|3", "u1=-|4", "c|1", "c1|2", "c1:|3", "c1:2|4", "c1:2+|5", "c1:2+3|6", "c1:2+3-|7", "a;p100|6"};
        for (String row : wrongAt) {
            int bar = row.lastIndexOf('|');
            dueFault(row.substring(0, bar), Integer.parseInt(row.substring(bar + 1)));
        }
        StringBuilder full = new StringBuilder("a");
        while (full.length() < 79) {
            full.append(";a");
        }
        dueFault(full.toString(), NONE);
        dueFault(full + ";", 80);
        dueFault(full + "a", 79);
    }

    private static void orders() {
        LakePlant x = fresh(21);
        due("carryOut() of nothing", x.carryOut(), BAD_TEXT);
        dueDone(x, "p1=2;i1=4;u1=-6;c5:7+8-9", 4);
        due("count(12): one change", x.count(12), 1);
        due("count(11)", x.count(11), 0);
        due("hour(1, 0)", x.hour(1, 0), 2);
        due("hour(1, 1)", x.hour(1, 1), 4);
        due("hour(1, 2)", x.hour(1, 2), 94);
        for (int part = 0; part < 4; part++) {
            due("ofContract(0, " + part + ")", x.ofContract(0, part), new int[] {5, 7, 8, 9}[part]);
        }
        due("hour(0, 0)", x.hour(0, 0), 100);
        due("hour(2, 0)", x.hour(2, 0), 100);
        due("undo() of all of them", x.undo(), 0);
        due("hour(1, 0)", x.hour(1, 0), 100);
        due("count(10)", x.count(10), 0);

        dueDone(x, "p2-4=7;u5-5=3", 2);
        for (int h = 0; h < 7; h++) {
            due("hour(" + h + ", 0)", x.hour(h, 0), h >= 2 && h <= 4 ? 7 : 100);
            due("hour(" + h + ", 2)", x.hour(h, 2), h == 5 ? 103 : 100);
        }
        dueDone(x, "p1=1;p4-3=8;p2=2", 1);
        due("hour(1, 0): ahead of the error", x.hour(1, 0), 1);
        due("hour(4, 0): nothing is done", x.hour(4, 0), 7);
        due("hour(3, 0): nothing is done", x.hour(3, 0), 7);
        due("hour(2, 0): behind the error", x.hour(2, 0), 7);
        due("count(11): emptied all the same", x.count(11), 0);
        dueDone(x, "i22-24=9", 0);
        due("hour(22, 1): ahead of the error it stays", x.hour(22, 1), 9);
        due("hour(23, 1)", x.hour(23, 1), 9);
        due("count(12): a change, also if none is carried out", x.count(12), 3);
        due("undo()", x.undo(), 2);
        due("hour(23, 1)", x.hour(23, 1), 3);
        String[] none = {"p24=1", "i1=100", "u1=21", "u1=-21", "u999=0", "c24:1+1-1", "c1:0+1-1", "c1:31+1-1", "p2-999=1", "i24-23=0"};
        for (String text : none) {
            dueDone(x, text, 0);
        }
        due("hour(23, 0)", x.hour(23, 0), 1);
        due("hour(1, 1)", x.hour(1, 1), 3);
        due("hour(1, 2)", x.hour(1, 2), 100);
        due("count(10)", x.count(10), 0);
        dueDone(x, "u1=20;u2=-20;u3=-0", 3);
        due("hour(1, 2)", x.hour(1, 2), 120);
        due("hour(2, 2)", x.hour(2, 2), 80);
        due("hour(3, 2)", x.hour(3, 2), 100);
        put(x, "p1=5;x");
        due("carryOut() with a fault", x.carryOut(), BAD_TEXT);
        due("hour(1, 0): nothing of it is done", x.hour(1, 0), 1);
        due("count(11): it stays", x.count(11), 6);
        due("count(12): no change", x.count(12), 6);
        contractsAndBestPlansByText();
    }

    private static void contractsAndBestPlansByText() {
        LakePlant x = fresh(21);
        dueDone(x, "c0:1+0-0;c1:1+0-0;c2:1+0-0;c3:1+0-0;c4:1+0-0", 5);
        dueDone(x, "c0:1+0-0;c1:1+0-0;c2:1+0-0;c3:1+0-0;p0=0", 3);
        due("count(10): a ninth one is an error", x.count(10), 8);
        due("hour(0, 0): and what is behind it isn't done", x.hour(0, 0), 100);
        x = plainDay(21);
        int changes = x.count(12);
        dueDone(x, "a;p15=5;a", 3);
        due("hour(7, 2)", x.hour(7, 2), 110);
        due("hour(15, 2)", x.hour(15, 2), 110);
        due("day(0)", x.day(0), 10000150);
        due("count(12)", x.count(12), Math.min(6, changes + 1));
        x.set(END, 10);
        dueDone(x, "p15=9;a", 2);
        due("hour(15, 2): the lower price now stands there", x.hour(15, 2), 105);
        x.set(END, 150);
        dueDone(x, "p3=4;a;p3=5", 1);
        due("hour(3, 0)", x.hour(3, 0), 4);
    }

    private static void undos() {
        LakePlant x = fresh(22);
        due("undo()", x.undo(), NOT_POSSIBLE);
        for (int i = 1; i <= 9; i++) {
            x.price(0, i);
            due("count(12)", x.count(12), Math.min(i, 6));
        }
        for (int i = 1; i <= 6; i++) {
            due("undo()", x.undo(), 6 - i);
            due("hour(0, 0)", x.hour(0, 0), 9 - i);
        }
        due("undo(): the older ones were dropped", x.undo(), NOT_POSSIBLE);
        due("hour(0, 0)", x.hour(0, 0), 3);
        for (int i = 4; i <= 10; i++) {
            x.price(0, i);
        }
        due("price(0, 1000)", x.price(0, 1000), BAD_VALUE);
        due("plan(0, 21)", x.plan(0, 21), BAD_VALUE);
        due("carryOut() of nothing", x.carryOut(), BAD_TEXT);
        for (int i = 9; i >= 4; i--) {
            due("undo()", x.undo(), i - 4);
            due("hour(0, 0), as errors leave the history", x.hour(0, 0), i);
        }
        x.undo();
        x.price(0, 3);
        x.undo();
        x.price(0, 3);
        due("undo()", x.undo(), 0);
        due("hour(0, 0)", x.hour(0, 0), 4);
        x.price(0, 3);
        x.price(0, 2);
        x.undo();
        due("hour(0, 0)", x.hour(0, 0), 3);
        x.price(0, 500);
        x.undo();
        x.inflow(0, 50);
        due("count(12): what was undone is gone", x.count(12), 2);
        due("undo()", x.undo(), 1);
        due("hour(0, 0)", x.hour(0, 0), 3);
        due("hour(0, 1)", x.hour(0, 1), 3);

        x = fresh(22);
        x.set(END, 7);
        x.inflow(1, 8);
        x.plan(1, 9);
        x.contract(1, 2, 3, 4);
        x.drop(0);
        due("count(10)", x.count(10), 0);
        due("undo() of drop", x.undo(), 4);
        due("ofContract(0, 3)", x.ofContract(0, 3), 4);
        due("undo() of contract", x.undo(), 3);
        due("count(10)", x.count(10), 0);
        due("hour(1, 2)", x.hour(1, 2), 109);
        due("undo() of plan", x.undo(), 2);
        due("hour(1, 2)", x.hour(1, 2), 100);
        due("hour(1, 1)", x.hour(1, 1), 8);
        due("undo() of inflow", x.undo(), 1);
        due("hour(1, 1)", x.hour(1, 1), 3);
        due("undo() of set", x.undo(), 0);
        due("count(END)", x.count(END), 80);
        x.price(5, 6);
        x.price(5, 7);
        x.set(END, 1);
        x.inflow(5, 8);
        x.inflow(5, 9);
        x.set(END, 2);
        int[] ends = {1, 1, 1, 80, 80, 80};
        int[] inflows = {9, 8, 3, 3, 3, 3};
        int[] prices = {7, 7, 7, 7, 6, 100};
        for (int i = 0; i < 6; i++) {
            due("undo() " + i, x.undo(), 5 - i);
            due("count(END) " + i, x.count(END), ends[i]);
            due("hour(5, 1) " + i, x.hour(5, 1), inflows[i]);
            due("hour(5, 0) " + i, x.hour(5, 0), prices[i]);
        }

        x = fresh(22);
        x.price(0, 100);
        due("count(12): recorded, though nothing is different", x.count(12), 1);
        x.price(0, 1000);
        x.drop(0);
        x.put(1);
        due("count(12): errors record nothing", x.count(12), 1);
        put(x, "p1=1");
        x.save(0);
        x.day(0);
        x.best();
        due("count(12): nor does what is no change", x.count(12), 1);
        x.price(0, 7);
        x.save(1);
        due("undo()", x.undo(), 1);
        due("count(11): the pad stays", x.count(11), 4);
        due("restore(1): the slots stay", x.restore(1) > 0 ? 1 : 0, 1);
        due("hour(0, 0)", x.hour(0, 0), 7);
        due("best() and undo()", x.best() == x.best() ? 1 : 0, 1);
        int best = x.best();
        x.price(18, 900);
        due("best(): another one", x.best() > best ? 1 : 0, 1);
        x.undo();
        due("best() after undo()", x.best(), best);
    }

    private static void saves() {
        LakePlant x = fresh(23);
        due("save(-1)", x.save(-1), BAD_VALUE);
        due("save(2)", x.save(2), BAD_VALUE);
        due("save(most)", x.save(MOST_INT), BAD_VALUE);
        due("save(0)", x.save(0), 10004320);
        due("count(12): no change", x.count(12), 0);
        due("restore(1): another slot", x.restore(1), NOT_POSSIBLE);
        x.price(0, 200);
        due("save(1)", x.save(1), 10004500);
        x.price(0, 300);
        due("restore(0)", x.restore(0), 10004320);
        due("restore(1)", x.restore(1), 10004500);
        x.price(0, 400);
        due("save(0): overwrites", x.save(0), 10004860);
        x.price(0, 0);
        due("restore(0)", x.restore(0), 10004860);
        due("hour(0, 0)", x.hour(0, 0), 400);
        x.set(END, 200);
        due("save(0): also where END is not reached", x.save(0), 10004860);
    }

    private static void restores() {
        LakePlant x = fresh(24);
        due("restore(-1)", x.restore(-1), BAD_VALUE);
        due("restore(2)", x.restore(2), BAD_VALUE);
        due("restore(0)", x.restore(0), NOT_POSSIBLE);
        due("count(12)", x.count(12), 0);
        x.set(PUMP, 5);
        x.price(1, 11);
        x.inflow(2, 12);
        x.plan(3, 13);
        x.contract(3, 14, 15, 16);
        int money = x.save(1);
        x.plan(3, -5);
        x.set(PUMP, 25);
        x.price(1, 0);
        x.inflow(2, 0);
        x.drop(0);
        x.contract(5, 1, 1, 1);
        x.contract(6, 1, 1, 1);
        put(x, "p1=1");
        due("restore(1)", x.restore(1), money);
        due("count(PUMP)", x.count(PUMP), 5);
        due("hour(1, 0)", x.hour(1, 0), 11);
        due("hour(2, 1)", x.hour(2, 1), 12);
        due("hour(3, 2)", x.hour(3, 2), 113);
        due("count(10)", x.count(10), 1);
        due("ofContract(0, 0)", x.ofContract(0, 0), 3);
        due("ofContract(0, 3)", x.ofContract(0, 3), 16);
        due("count(11): the pad stays", x.count(11), 4);
        due("day(0)", x.day(0), money);
        due("count(12)", x.count(12), 6);
        due("undo() of restore", x.undo(), 5);
        due("count(10)", x.count(10), 2);
        due("count(PUMP)", x.count(PUMP), 25);
        x.price(4, 999);
        int best = x.best();
        due("restore(1): the slot keeps it", x.restore(1), money);
        due("hour(4, 0)", x.hour(4, 0), 100);
        due("best() of another state", x.best() == best ? 1 : 0, 0);
        due("restore(1) again is a change, too", x.restore(1), money);
        due("undo()", x.undo(), 5);
        due("undo()", x.undo(), 4);
        due("best()", x.best(), best);
    }

    public static void main(String[] args) {
        newObject();
        settings();
        prices();
        inflows();
        plans();
        contracts();
        drops();
        adopts();
        hours();
        contractsAnswers();
        days();
        troubledSets();
        counts();
        bestMoney();
        bestPlans();
        worths();
        highestLevels();
        puts();
        wipes();
        faults();
        orders();
        undos();
        saves();
        restores();
        System.out.println(wrong == 0 ? "all answers are as due" : wrong + " answers are not as due");
        if (wrong != 0) {
            System.exit(1);
        }
    }
}
