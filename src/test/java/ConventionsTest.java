import java.util.function.Supplier;
import java.util.function.ToIntFunction;

/**
 * The sentences ahead of the promises that hold for all methods: the 512 calls of an object, and CONVENTIONS. Each of
 * them is told in its test.
 */
public final class ConventionsTest extends Sentences {
    private static final int[] OUT_OF_ALL_ROWS = {-1, LEAST_INT, MOST_INT, 1 << 30, 1 << 8, 32};

    private static void call512() {
        sentence("An object is used for at most 512 calls after it has been made; what later calls answer is free.");
        LakePlant x = new LakePlant();
        for (int call = 1; call <= 505; call++) {
            due("price(5, .), call " + call, x.price(5, call), call == 1 ? 100 : call - 1);
        }
        due("undo(), call 506", x.undo(), 5);
        due("count(12), call 507", x.count(12), 5);
        due("hour(5, 0), call 508", x.hour(5, 0), 504);
        due("put(97), call 509", x.put('a'), 1);
        due("carryOut(), call 510", x.carryOut(), 1);
        due("hour(5, 2), call 511", x.hour(5, 2), 120);
        due("count(12), call 512", x.count(12), 6);
    }

    private static void errorCodes() {
        sentence("A method that fails returns one of the error codes NO_SUCH (-1), BAD_VALUE (-2), BAD_TEXT (-3), "
            + "TOO_MANY (-4) and NOT_POSSIBLE (-5)");
        LakePlant x = new LakePlant();
        due("price(24, 0)", x.price(24, 0), -1);
        due("price(0, 1000)", x.price(0, 1000), -2);
        due("carryOut() of nothing", x.carryOut(), -3);
        write(x, textOf(80));
        due("put(97) behind 80", x.put('a'), -4);
        due("undo() of nothing", x.undo(), -5);
    }

    private static void firstErrorThatApplies() {
        sentence("it names its errors in the order in which they are checked, and the first one that applies is returned.");
        LakePlant x = new LakePlant();
        x.plan(0, -1);
        x.plan(1, 1);
        due("set(LOW, 201), which is above HIGH, too", x.set(LOW, 201), BAD_VALUE);
        due("set(HIGH, -1), which is below LOW, too", x.set(HIGH, -1), BAD_VALUE);
        due("set(PUMP, -1), which is less than a plan has, too", x.set(PUMP, -1), BAD_VALUE);
        due("set(FALL, -1), which is less than a plan has, too", x.set(FALL, -1), BAD_VALUE);
        due("price(24, 1000)", x.price(24, 1000), NO_SUCH);
        due("inflow(24, 100)", x.inflow(24, 100), NO_SUCH);
        due("plan(24, 21)", x.plan(24, 21), NO_SUCH);
        due("contract(24, 0, 0, 0)", x.contract(24, 0, 0, 0), NO_SUCH);
        due("hour(24, 11)", x.hour(24, 11), NO_SUCH);
        due("ofContract(0, 5) without contracts", x.ofContract(0, 5), NO_SUCH);
        due("restore(2) without a saved state", x.restore(2), BAD_VALUE);
        for (int contract = 0; contract < 8; contract++) {
            x.contract(0, 1, 0, 0);
        }
        due("contract(24, 1, 0, 0), a ninth one", x.contract(24, 1, 0, 0), NO_SUCH);
        due("contract(23, 0, 0, 0), a ninth one", x.contract(23, 0, 0, 0), BAD_VALUE);
        due("contract(23, 1, 10000, 0), a ninth one", x.contract(23, 1, 10000, 0), BAD_VALUE);
        due("contract(23, 1, 0, 10000), a ninth one", x.contract(23, 1, 0, 10000), BAD_VALUE);
        write(x, textOf(80));
        due("put(32) behind 80", x.put(32), BAD_VALUE);
        due("put(0) behind 80", x.put(0), BAD_VALUE);
    }

    private static void noneIsNoError() {
        sentence("NONE (-6) is not an error; it is returned only if no error applies.");
        LakePlant x = new LakePlant();
        x.set(END, 200);
        due("best() without a plan", x.best(), -6);
        due("bestPlan(23) without a plan", x.bestPlan(23), -6);
        due("bestPlan(24) without a plan", x.bestPlan(24), NO_SUCH);
        due("bestPlan(-1) without a plan", x.bestPlan(-1), NO_SUCH);
        due("worth(120) without a plan", x.worth(120), -6);
        due("worth(121) without a plan", x.worth(121), BAD_VALUE);
        due("worth(-80) without a plan", x.worth(-80), -6);
        due("worth(-81) without a plan", x.worth(-81), BAD_VALUE);
        due("hour(23, 10) without trouble", x.hour(23, 10), -6);
        due("hour(24, 10)", x.hour(24, 10), NO_SUCH);
        x.put('a');
        due("fault() of a", x.fault(), -6);
    }

    private static void numberedFromZero() {
        sentence("Everything is numbered from 0.");
        LakePlant x = new LakePlant();
        due("price(0, 7)", x.price(0, 7), 100);
        due("hour(0, 0)", x.hour(0, 0), 7);
        due("contract(0, 1, 2, 3), the first one", x.contract(0, 1, 2, 3), 0);
        due("ofContract(0, 0)", x.ofContract(0, 0), 0);
        due("set(0, 19)", x.set(0, 19), 20);
        due("count(0)", x.count(0), 19);
        due("save(0)", x.save(0) > 0 ? 1 : 0, 1);
        x.put('x');
        due("fault() of x", x.fault(), 0);
    }

    private static void setsOfHours() {
        sentence("Sets of hours are bit masks.");
        LakePlant x = new LakePlant();
        x.contract(0, 3, 0, 0);
        due("troubled(3) of hour 0", x.troubled(3), 1);
        x.contract(23, 3, 0, 0);
        due("troubled(3) of the hours 0 and 23", x.troubled(3), 8388609);
        x.contract(23, 3, 0, 0);
        due("troubled(3) with a second one in hour 23", x.troubled(3), 8388609);
        x.inflow(0, 0);
        x.set(LOW, 150);
        due("troubled(1) of all hours", x.troubled(1), 16777215);
        due("troubled(3) of none", x.troubled(3), 0);
    }

    /** A day with as much as there can be of everything: 6 changes to undo, 8 contracts, and a pad of 79 characters. */
    private static LakePlant fullDay() {
        LakePlant x = new LakePlant();
        x.set(PUMP, 25);
        x.plan(3, -7);
        x.plan(5, 9);
        x.price(18, 400);
        x.save(0);
        for (int contract = 0; contract < 8; contract++) {
            x.contract(contract * 3, contract + 1, contract * 10, contract * 100);
        }
        x.inflow(6, 99);
        x.price(19, 300);
        x.plan(19, 11);
        x.set(LOW, 30);
        write(x, textOf(78) + "x");
        return x;
    }

    private static LakePlant dayWithoutBestPlan() {
        LakePlant x = new LakePlant();
        x.plan(4, 5);
        x.set(END, 200);
        return x;
    }

    /** Makes two days alike, calls what is refused on one of them, and compares them, and what can be undone of them. */
    private static void refused(Supplier<LakePlant> day, String call, ToIntFunction<LakePlant> refusedCall, int error) {
        for (int undone = 0; undone <= 6; undone++) {
            LakePlant x = day.get();
            LakePlant other = day.get();
            due(call, refusedCall.applyAsInt(x), error);
            for (int i = 0; i < undone; i++) {
                due("undo() behind the refused " + call, x.undo(), other.undo());
            }
            due("whether nothing has changed by " + call + ", " + undone + " undone", alike(x, other), 1);
            for (int slot = 0; slot < 2; slot++) {
                due("restore(" + slot + ") behind the refused " + call, x.restore(slot), other.restore(slot));
                due("the inflow of hour 6 of slot " + slot, x.hour(6, 1), other.hour(6, 1));
                due("the plan of hour 19 of slot " + slot, x.hour(19, 2), other.hour(19, 2));
                due("the contracts of slot " + slot, x.count(10), other.count(10));
            }
        }
    }

    private static void refused(String call, ToIntFunction<LakePlant> refusedCall, int error) {
        refused(ConventionsTest::fullDay, call, refusedCall, error);
    }

    private static void refusedHours(int hour) {
        refused("price(" + hour + ", 5)", x -> x.price(hour, 5), NO_SUCH);
        refused("inflow(" + hour + ", 5)", x -> x.inflow(hour, 5), NO_SUCH);
        refused("plan(" + hour + ", 5)", x -> x.plan(hour, 5), NO_SUCH);
        refused("contract(" + hour + ", 1, 0, 0)", x -> x.contract(hour, 1, 0, 0), NO_SUCH);
        refused("hour(" + hour + ", 0)", x -> x.hour(hour, 0), NO_SUCH);
        refused("bestPlan(" + hour + ")", x -> x.bestPlan(hour), NO_SUCH);
    }

    private static void refusedValues(int value) {
        refused("price(0, " + value + ")", x -> x.price(0, value), BAD_VALUE);
        refused("inflow(0, " + value + ")", x -> x.inflow(0, value), BAD_VALUE);
        refused("contract(0, " + value + ", 0, 0)", x -> x.contract(0, value, 0, 0), BAD_VALUE);
        refused("contract(0, 1, " + value + ", 0)", x -> x.contract(0, 1, value, 0), BAD_VALUE);
        refused("contract(0, 1, 0, " + value + ")", x -> x.contract(0, 1, 0, value), BAD_VALUE);
        for (int setting = 0; setting < 10; setting++) {
            int s = setting;
            refused("set(" + s + ", " + value + ")", x -> x.set(s, value), BAD_VALUE);
        }
    }

    private static void refusedCallsChangeNothing() {
        sentence("A call that returns an error changes nothing.");
        refusedHours(24);
        refusedValues(10000);
        for (int number : OUT_OF_ALL_ROWS) {
            refusedHours(number);
            refused("set(" + number + ", 5)", x -> x.set(number, 5), BAD_VALUE);
            refused("drop(" + number + ")", x -> x.drop(number), NO_SUCH);
            refused("ofContract(" + number + ", 0)", x -> x.ofContract(number, 0), NO_SUCH);
            refused("hour(0, " + number + ")", x -> x.hour(0, number), BAD_VALUE);
            refused("ofContract(0, " + number + ")", x -> x.ofContract(0, number), BAD_VALUE);
            refused("day(" + number + ")", x -> x.day(number), BAD_VALUE);
            refused("troubled(" + number + ")", x -> x.troubled(number), BAD_VALUE);
            refused("count(" + number + ")", x -> x.count(number), BAD_VALUE);
            refused("save(" + number + ")", x -> x.save(number), BAD_VALUE);
            refused("restore(" + number + ")", x -> x.restore(number), BAD_VALUE);
        }
        for (int value : new int[] {LEAST_INT, MOST_INT}) {
            refusedValues(value);
            refused("plan(0, " + value + ")", x -> x.plan(0, value), BAD_VALUE);
            refused("worth(" + value + ")", x -> x.worth(value), BAD_VALUE);
        }
        refusedByWhatThereIs();
        refusedOfNothing();
    }

    private static void refusedByWhatThereIs() {
        refused("set(LOW, 151)", x -> x.set(LOW, 151), NOT_POSSIBLE);
        refused("set(HIGH, 29)", x -> x.set(HIGH, 29), NOT_POSSIBLE);
        refused("set(PUMP, 6)", x -> x.set(PUMP, 6), NOT_POSSIBLE);
        refused("set(FALL, 10)", x -> x.set(FALL, 10), NOT_POSSIBLE);
        refused("plan(0, 21)", x -> x.plan(0, 21), BAD_VALUE);
        refused("plan(0, -26)", x -> x.plan(0, -26), BAD_VALUE);
        refused("contract(0, 1, 0, 0), a ninth one", x -> x.contract(0, 1, 0, 0), TOO_MANY);
        refused("drop(8)", x -> x.drop(8), NO_SUCH);
        refused("ofContract(8, 0)", x -> x.ofContract(8, 0), NO_SUCH);
        refused("ofContract(7, 5)", x -> x.ofContract(7, 5), BAD_VALUE);
        refused("put(0)", x -> x.put(0), BAD_VALUE);
        refused("put(32)", x -> x.put(32), BAD_VALUE);
        refused("put of two at 79", x -> x.put(packed("aa")), TOO_MANY);
        refused("put of eight at 79", x -> x.put(packed(";a;a;a;a")), TOO_MANY);
        refused("put of two, the second one wrong", x -> x.put(('a' << 8) + 127), BAD_VALUE);
        refused("carryOut() of a text whose last character is wrong", LakePlant::carryOut, BAD_TEXT);
        refused("restore(1), in which nothing was saved", x -> x.restore(1), NOT_POSSIBLE);
        refused("worth(121)", x -> x.worth(121), BAD_VALUE);
        refused("worth(-81)", x -> x.worth(-81), BAD_VALUE);
        refused(ConventionsTest::dayWithoutBestPlan, "adopt()", LakePlant::adopt, NOT_POSSIBLE);
    }

    private static void refusedOfNothing() {
        refused(LakePlant::new, "undo() on a new object", LakePlant::undo, NOT_POSSIBLE);
        refused(LakePlant::new, "carryOut() on a new object", LakePlant::carryOut, BAD_TEXT);
        refused(LakePlant::new, "drop(0) on a new object", x -> x.drop(0), NO_SUCH);
        refused(LakePlant::new, "ofContract(0, 0) on a new object", x -> x.ofContract(0, 0), NO_SUCH);
        refused(LakePlant::new, "restore(0) on a new object", x -> x.restore(0), NOT_POSSIBLE);
        refused(LakePlant::new, "put(0) on a new object", x -> x.put(0), BAD_VALUE);
        refused(LakePlant::new, "put(-1) on a new object", x -> x.put(-1), BAD_VALUE);
    }

    public static void main(String[] args) {
        call512();
        errorCodes();
        firstErrorThatApplies();
        noneIsNoError();
        numberedFromZero();
        setsOfHours();
        refusedCallsChangeNothing();
        end();
    }
}
