import java.util.List;
import java.util.function.ToIntFunction;

/**
 * The sentences of the promises 1 to 24 that name a boundary, in their order. Each of them is told in its test. What
 * refused calls leave as it is stands in ConventionsTest.
 */
public final class PromiseSentencesTest extends Sentences {

    private static void newObject() {
        sentence("Creates a day without plans and contracts.");
        LakePlant used = new LakePlant();
        carriedOut(used, "p0-23=1;i0-23=1;u0-23=1;c1:1+1-1");
        used.save(0);
        used.save(1);
        used.put('x');
        LakePlant x = new LakePlant();
        for (int hour = 0; hour < 24; hour++) {
            due("hour(" + hour + ", 2)", x.hour(hour, 2), 100);
        }
        due("count(10)", x.count(10), 0);
        due("count(11)", x.count(11), 0);
        due("count(12)", x.count(12), 0);
        due("ofContract(0, 0)", x.ofContract(0, 0), NO_SUCH);
        due("undo()", x.undo(), NOT_POSSIBLE);
        due("restore(0)", x.restore(0), NOT_POSSIBLE);
        due("restore(1)", x.restore(1), NOT_POSSIBLE);
    }

    private static void setting() {
        sentence("Returns the previous value; BAD_VALUE if there is no such setting, or the value is out of its range; "
            + "NOT_POSSIBLE if LOW would be above HIGH, or PUMP or FALL less than what a plan has.");
        LakePlant x = new LakePlant();
        due("set(-1, 0)", x.set(-1, 0), BAD_VALUE);
        due("set(10, 0)", x.set(10, 0), BAD_VALUE);
        due("set(DRY, 999), the last setting", x.set(9, 999), 50);
        due("set(DRY, 1000)", x.set(9, 1000), BAD_VALUE);
        due("set(DRY, 0)", x.set(9, 0), 999);
        due("set(PUMP, 0), the first setting", x.set(0, 0), 20);
        due("set(PUMP, 30)", x.set(0, 30), 0);
        due("set(PUMP, 30): the same again", x.set(0, 30), 30);
        due("set(LOW, 151)", x.set(LOW, 151), NOT_POSSIBLE);
        due("set(LOW, 150)", x.set(LOW, 150), 20);
        due("set(HIGH, 149)", x.set(HIGH, 149), NOT_POSSIBLE);
        x.plan(0, -30);
        x.plan(23, 20);
        due("set(PUMP, 29)", x.set(PUMP, 29), NOT_POSSIBLE);
        due("set(FALL, 19)", x.set(FALL, 19), NOT_POSSIBLE);
        due("set(FALL, 20)", x.set(FALL, 20), 20);
        due("set(BEGIN, 0), below LOW", x.set(BEGIN, 0), 80);
        due("set(END, 200), above HIGH", x.set(END, 200), 80);
        due("set(FLOW, 30), above FALL", x.set(FLOW, 30), 2);
    }

    private static void price() {
        sentence("Returns the previous one; NO_SUCH if there is no such hour; BAD_VALUE if price is out of range.");
        LakePlant x = new LakePlant();
        due("price(0, 0)", x.price(0, 0), 100);
        due("price(0, 999)", x.price(0, 999), 0);
        due("price(0, 999): the same again", x.price(0, 999), 999);
        sentence("`price`: 0 to 999");
        due("price(0, -1)", x.price(0, -1), BAD_VALUE);
        due("price(0, 1000)", x.price(0, 1000), BAD_VALUE);
        due("price(0, 0)", x.price(0, 0), 999);
        due("price(0, 999)", x.price(0, 999), 0);
        sentence("NO_SUCH if there is no such hour; BAD_VALUE if price is out of range.");
        due("price(23, 5)", x.price(23, 5), 100);
        due("price(24, 5)", x.price(24, 5), NO_SUCH);
        due("price(-1, 5)", x.price(-1, 5), NO_SUCH);
        due("price(0, 7): the refused ones left it", x.price(0, 7), 999);
    }

    private static void inflow() {
        sentence("Returns the previous one; NO_SUCH if there is no such hour; BAD_VALUE if inflow is out of range.");
        LakePlant x = new LakePlant();
        due("inflow(0, 0)", x.inflow(0, 0), 3);
        due("inflow(0, 99)", x.inflow(0, 99), 0);
        due("inflow(0, 99): the same again", x.inflow(0, 99), 99);
        sentence("`inflow`: 0 to 99");
        due("inflow(0, -1)", x.inflow(0, -1), BAD_VALUE);
        due("inflow(0, 100)", x.inflow(0, 100), BAD_VALUE);
        due("inflow(0, 0)", x.inflow(0, 0), 99);
        due("inflow(0, 99)", x.inflow(0, 99), 0);
        sentence("NO_SUCH if there is no such hour; BAD_VALUE if inflow is out of range.");
        due("inflow(23, 5)", x.inflow(23, 5), 3);
        due("inflow(24, 5)", x.inflow(24, 5), NO_SUCH);
        due("inflow(-1, 5)", x.inflow(-1, 5), NO_SUCH);
        due("inflow(0, 7): the refused ones left it", x.inflow(0, 7), 99);
    }

    private static void plan() {
        sentence("Returns the previous one, and 100 more; NO_SUCH if there is no such hour; BAD_VALUE if units is not from PUMP below 0 to FALL.");
        LakePlant x = new LakePlant();
        x.set(PUMP, 30);
        x.set(FALL, 30);
        due("plan(0, -30)", x.plan(0, -30), 100);
        due("plan(0, 30): the previous one was -30", x.plan(0, 30), 70);
        due("plan(0, 30): the same again", x.plan(0, 30), 130);
        due("plan(0, 31)", x.plan(0, 31), BAD_VALUE);
        due("plan(0, -31)", x.plan(0, -31), BAD_VALUE);
        due("plan(0, least int)", x.plan(0, LEAST_INT), BAD_VALUE);
        due("plan(0, most int)", x.plan(0, MOST_INT), BAD_VALUE);
        due("plan(23, 1)", x.plan(23, 1), 100);
        due("plan(24, 0)", x.plan(24, 0), NO_SUCH);
        due("plan(-1, 0)", x.plan(-1, 0), NO_SUCH);
        due("plan(0, 0): the refused ones left it", x.plan(0, 0), 130);
        sentence("`units`: above 0 to let down, below 0 to pump");
        x.set(FLOW, 0);
        int[] units = {-1, 0, 1};
        for (int i = 0; i < 3; i++) {
            x.plan(0, units[i]);
            due("hour(0, 2) with " + units[i], x.hour(0, 2), 99 + i);
            due("hour(0, 3) with " + units[i], x.hour(0, 3), i == 2 ? 1 : 0);
            due("hour(0, 4) with " + units[i], x.hour(0, 4), i == 0 ? 1 : 0);
        }
    }

    private static void contractRanges() {
        LakePlant x = new LakePlant();
        sentence("`units`: 1 to 30");
        due("contract(5, 0, 0, 0)", x.contract(5, 0, 0, 0), BAD_VALUE);
        due("contract(5, 1, 0, 0)", x.contract(5, 1, 0, 0), 0);
        due("contract(5, 30, 0, 0)", x.contract(5, 30, 0, 0), 1);
        due("contract(5, 31, 0, 0)", x.contract(5, 31, 0, 0), BAD_VALUE);
        sentence("`bonus`: 0 to 9999");
        due("contract(5, 1, -1, 0)", x.contract(5, 1, -1, 0), BAD_VALUE);
        due("contract(5, 1, 9999, 0)", x.contract(5, 1, 9999, 0), 2);
        due("contract(5, 1, 10000, 0)", x.contract(5, 1, 10000, 0), BAD_VALUE);
        sentence("`fine`: 0 to 9999");
        due("contract(5, 1, 0, -1)", x.contract(5, 1, 0, -1), BAD_VALUE);
        due("contract(5, 1, 0, 9999)", x.contract(5, 1, 0, 9999), 3);
        due("contract(5, 1, 0, 10000)", x.contract(5, 1, 0, 10000), BAD_VALUE);
    }

    private static void contract() {
        sentence("Returns its number; NO_SUCH if there is no such hour; BAD_VALUE if another argument is out of range; "
            + "TOO_MANY if there are 8 contracts.");
        LakePlant x = new LakePlant();
        due("contract(-1, 1, 0, 0)", x.contract(-1, 1, 0, 0), NO_SUCH);
        due("contract(24, 1, 0, 0)", x.contract(24, 1, 0, 0), NO_SUCH);
        for (int number = 0; number < 8; number++) {
            due("contract " + number, x.contract(number < 4 ? 0 : 23, 1, 0, 0), number);
        }
        due("a ninth one", x.contract(0, 1, 0, 0), TOO_MANY);
        due("count(10)", x.count(10), 8);
        x.drop(0);
        due("an eighth one again", x.contract(12, 1, 0, 0), 7);
        due("ofContract(7, 0)", x.ofContract(7, 0), 12);
        due("a ninth one again", x.contract(0, 1, 0, 0), TOO_MANY);
    }

    private static void drop() {
        sentence("Drops a contract (those behind it move up).");
        for (int dropped = 0; dropped < 8; dropped++) {
            LakePlant x = new LakePlant();
            for (int number = 0; number < 8; number++) {
                x.contract(number, number + 1, number + 2, number + 3);
            }
            due("drop(" + dropped + ") of eight", x.drop(dropped), 7);
            for (int number = 0; number < 7; number++) {
                for (int what = 0; what < 4; what++) {
                    due("ofContract(" + number + ", " + what + ")", x.ofContract(number, what), (number < dropped ? number : number + 1) + what);
                }
            }
            due("ofContract(7, 0)", x.ofContract(7, 0), NO_SUCH);
            due("day(8): that of hour " + dropped + " is not missed any more", x.day(8), dropped < 2 ? 6 : 5);
            int itsMoney = dropped < 2 ? dropped + 2 : -(dropped + 3);
            due("day(0): neither its money nor a second time that of the last one", x.day(0), 10004320 + 5 - 45 - itsMoney);
            for (int left = 6; left >= 0; left--) {
                due("drop(" + left + "), the last one", x.drop(left), left);
            }
            due("day(0): nothing is left of all eight", x.day(0), 10004320);
            due("best(): nothing is left of all eight", x.best(), new LakePlant().best());
        }
        sentence("Returns how many contracts there are then; NO_SUCH if there is no such contract.");
        LakePlant x = new LakePlant();
        due("drop(0) without contracts", x.drop(0), NO_SUCH);
        x.contract(0, 1, 0, 0);
        due("drop(1) of one", x.drop(1), NO_SUCH);
        due("drop(-1) of one", x.drop(-1), NO_SUCH);
        due("drop(0) of one", x.drop(0), 0);
        due("drop(0) again", x.drop(0), NO_SUCH);
    }

    private static void adopt() {
        sentence("Takes the best plan for all hours.");
        LakePlant x = plainDay();
        x.price(0, 30);
        x.price(23, 40);
        x.plan(12, 3);
        due("adopt(): the hours 0, 15 and 23, and hour 12, which has a plan no more", x.adopt(), 4);
        for (int hour = 0; hour < 24; hour++) {
            int plan = hour == 0 || hour == 23 ? 10 : hour == 15 ? 5 : 0;
            due("hour(" + hour + ", 2)", x.hour(hour, 2), 100 + plan);
        }
        sentence("Returns in how many hours the plan is another one than before; NOT_POSSIBLE if there is none.");
        due("adopt() again", x.adopt(), 0);
        x.plan(0, 9);
        x.plan(23, 1);
        due("adopt() where two are others", x.adopt(), 2);
        x.set(PUMP, 1);
        carriedOut(x, "p0-23=0");
        due("adopt() where all are others", x.adopt(), 24);
        x.set(END, 151);
        due("adopt() without one", x.adopt(), NOT_POSSIBLE);
        due("hour(0, 2): it stays", x.hour(0, 2), 99);
        x.set(END, 49);
        due("adopt() with just one that is possible", x.adopt(), 0);
    }

    private static void hour() {
        sentence("0 its price, 1 its inflow, 2 its plan and 100, 3 what is let down, 4 pumped, 5 lost of that, 6 spilled, "
            + "7 the level behind it, 8 its money and 1000000, 9 its trouble, 10 the cause of its trouble (NONE)");
        LakePlant x = new LakePlant();
        carriedOut(x, "p23=200;i22-23=99;u23=-10;c23:30+5-7");
        int[] last = {200, 99, 90, 2, 10, 3, 104, 150, 1000000 + 360 - 2000 - 7, 3, 22};
        int[] first = {100, 3, 100, 2, 0, 0, 0, 81, 1000180, 0, NONE};
        for (int what = 0; what <= 10; what++) {
            due("hour(23, " + what + ")", x.hour(23, what), last[what]);
            due("hour(0, " + what + ")", x.hour(0, what), first[what]);
        }
        sentence("Returns the number; NO_SUCH if there is no such hour; BAD_VALUE if what is out of range.");
        due("hour(-1, 0)", x.hour(-1, 0), NO_SUCH);
        due("hour(24, 0)", x.hour(24, 0), NO_SUCH);
        due("hour(0, -1)", x.hour(0, -1), BAD_VALUE);
        due("hour(0, 11)", x.hour(0, 11), BAD_VALUE);
        due("hour(23, 11)", x.hour(23, 11), BAD_VALUE);
    }

    /** The least and the most that the money of an hour, which is answered with 1000000 more, can be. */
    private static void moneyOfAnHour() {
        sentence("8 its money and 1000000");
        LakePlant x = new LakePlant();
        x.set(PUMP, 30);
        x.set(FALL, 30);
        x.set(YIELD, 100);
        x.set(FLOW, 30);
        x.set(DRY, 999);
        x.set(LOSS, 100);
        x.set(BEGIN, 0);
        x.price(0, 999);
        x.plan(0, -30);
        for (int contract = 0; contract < 8; contract++) {
            x.contract(0, 30, 9999, 9999);
        }
        due("hour(0, 8), the least", x.hour(0, 8), 1000000 - 30 * 999 - 8 * 9999 - 999);
        x.plan(0, 30);
        x.set(BEGIN, 200);
        due("hour(0, 8), the most", x.hour(0, 8), 1000000 + 30 * 999 + 8 * 9999);
    }

    private static void ofContract() {
        sentence("0 its hour, 1 its units, 2 its bonus, 3 its fine, 4 whether it is met by the plan (1 or 0)");
        LakePlant x = new LakePlant();
        x.contract(23, 5, 60, 70);
        int[] parts = {23, 5, 60, 70};
        for (int what = 0; what < 4; what++) {
            due("ofContract(0, " + what + ")", x.ofContract(0, what), parts[what]);
        }
        x.plan(23, 4);
        due("ofContract(0, 4): one less", x.ofContract(0, 4), 0);
        x.plan(23, 5);
        due("ofContract(0, 4): just its units", x.ofContract(0, 4), 1);
        x.plan(23, 6);
        due("ofContract(0, 4): one more", x.ofContract(0, 4), 1);
        x.plan(23, -5);
        due("ofContract(0, 4): while it pumps", x.ofContract(0, 4), 0);
        x.set(FLOW, 5);
        due("ofContract(0, 4): by FLOW alone, while it pumps", x.ofContract(0, 4), 1);
        x.set(LOW, 150);
        x.set(BEGIN, 0);
        due("ofContract(0, 4): nothing can be let down", x.ofContract(0, 4), 0);
        sentence("Returns the number; NO_SUCH if there is no such contract; BAD_VALUE if what is out of range.");
        due("ofContract(0, -1)", x.ofContract(0, -1), BAD_VALUE);
        due("ofContract(0, 0)", x.ofContract(0, 0), 23);
        due("ofContract(0, 5)", x.ofContract(0, 5), BAD_VALUE);
        due("ofContract(-1, 0)", x.ofContract(-1, 0), NO_SUCH);
        due("ofContract(1, 0)", x.ofContract(1, 0), NO_SUCH);
        due("ofContract(1, 5)", x.ofContract(1, 5), NO_SUCH);
        due("ofContract(1 << 30, 0)", x.ofContract(1 << 30, 0), NO_SUCH);
    }

    private static void day() {
        sentence("6 hours that are dry, 7 that are cut (also dry ones), 8 contracts that are missed, "
            + "9 whether the level in the end is at least END (1 or 0), 10 all inflows");
        LakePlant x = new LakePlant();
        carriedOut(x, "i0-23=0;u2=20;c0:2+0-0;c0:3+0-0;c1:1+0-0;c2:1+0-0;c2:2+0-0");
        x.set(BEGIN, 25);
        due("day(6): the hours 2 to 23", x.day(6), 22);
        due("day(7): the same ones", x.day(7), 22);
        due("hour(2, 3): 1 of 20, which is less than FLOW", x.hour(2, 3), 1);
        due("day(8): one in hour 0, one in hour 2", x.day(8), 2);
        x.set(END, 20);
        due("day(9): just END", x.day(9), 1);
        x.set(END, 21);
        due("day(9): one too few", x.day(9), 0);
        due("day(10): none", x.day(10), 0);
        carriedOut(x, "i0-23=99");
        due("day(10): the most", x.day(10), 24 * 99);
        due("day(6): none", x.day(6), 0);
        due("day(7): none", x.day(7), 0);
        due("day(4): what is spilled", x.day(4), 25 + 24 * 99 - 23 * 2 - 20 - 150);
    }

    private static void dayOfCutHours() {
        sentence("6 hours that are dry, 7 that are cut (also dry ones)");
        LakePlant x = new LakePlant();
        x.set(BEGIN, 20);
        x.plan(0, 20);
        due("day(6): 3 are let down, which is not less than FLOW", x.day(6), 0);
        due("day(7)", x.day(7), 1);
        x.set(FLOW, 3);
        due("day(6): FLOW is just what flows in", x.day(6), 0);
        x.set(FLOW, 4);
        due("day(6)", x.day(6), 24);
        due("day(7): each hour once", x.day(7), 24);
        x.set(FLOW, 0);
        due("day(6) with FLOW 0", x.day(6), 0);
        due("day(7) with FLOW 0", x.day(7), 1);
    }

    private static void dayRanges() {
        sentence("Returns a number of the whole day by the plan.");
        LakePlant x = new LakePlant();
        int[] numbers = {10004320, 48, 0, 0, 0, 104, 0, 0, 0, 1, 72};
        for (int what = 0; what <= 10; what++) {
            due("day(" + what + ")", x.day(what), numbers[what]);
        }
        sentence("Returns the number; BAD_VALUE if what is out of range.");
        due("day(-1)", x.day(-1), BAD_VALUE);
        due("day(11)", x.day(11), BAD_VALUE);
        sentence("0 the money and 10000000, 1 what is let down, 2 pumped, 3 lost, 4 spilled, 5 the level in the end");
        x.set(YIELD, 100);
        x.set(FALL, 30);
        x.set(LOW, 0);
        carriedOut(x, "p0-23=999;i0-23=99;u0-23=30");
        due("day(0): the most for water", x.day(0), 10000000 + 24 * 30 * 999);
        due("day(1)", x.day(1), 720);
        x.set(PUMP, 30);
        x.set(LOSS, 1);
        carriedOut(x, "u0-23=-30");
        x.set(FLOW, 0);
        due("day(0): the most paid for pumping", x.day(0), 10000000 - 24 * 30 * 999);
        due("day(2)", x.day(2), 720);
        due("day(3): each hour's loss is rounded up for itself", x.day(3), 24);
        due("day(4)", x.day(4), 80 + 24 * (29 + 99) - 150);
        due("day(5)", x.day(5), 150);
    }

    private static void troubled() {
        sentence("Returns the hours whose trouble is a certain one (that of hour(.., 9)), as a set.");
        LakePlant x = new LakePlant();
        x.set(BEGIN, 20);
        carriedOut(x, "i0-4=2;i0=1;u1=3;c0:2+0-0;c1:3+0-0;c2:3+0-0;i3-4=99;c4:3+0-0");
        x.inflow(5, 99);
        due("troubled(1): hour 0, not what else it is", x.troubled(1), 1);
        due("troubled(2): hour 1, not dry hour 0", x.troubled(2), 2);
        due("troubled(3): the hours 2 and 4, not 0 and 1", x.troubled(3), 4 + 16);
        due("troubled(4): the hours from 5 on, not 4", x.troubled(4), (1 << 24) - (1 << 5));
        sentence("`trouble`: 1 to 4 Returns the set; BAD_VALUE if trouble is out of range.");
        due("troubled(0)", x.troubled(0), BAD_VALUE);
        due("troubled(5)", x.troubled(5), BAD_VALUE);
        due("troubled(-1)", x.troubled(-1), BAD_VALUE);
        due("troubled(4) on a new object: none", new LakePlant().troubled(4), 0);
        due("troubled(1) on a new object: none", new LakePlant().troubled(1), 0);
    }

    private static void count() {
        sentence("0 to 9 the settings, 10 contracts, 11 the length of the pad, 12 how many changes can be undone");
        LakePlant x = new LakePlant();
        int[] settings = {20, 20, 25, 90, 2, 20, 150, 80, 80, 50};
        for (int what = 0; what < 10; what++) {
            due("count(" + what + ")", x.count(what), settings[what]);
        }
        for (int what = 10; what < 13; what++) {
            due("count(" + what + ") of a new object", x.count(what), 0);
        }
        for (int contract = 0; contract < 8; contract++) {
            x.contract(0, 1, 0, 0);
        }
        write(x, textOf(80));
        due("count(10) of eight", x.count(10), 8);
        due("count(11) of eighty", x.count(11), 80);
        due("count(12) of eight changes", x.count(12), 6);
        sentence("Returns the number; BAD_VALUE if what is out of range.");
        due("count(-1)", x.count(-1), BAD_VALUE);
        due("count(13)", x.count(13), BAD_VALUE);
    }

    private static void best() {
        sentence("Returns the money; NONE if there is no plan by which the level in the end is at least END.");
        LakePlant x = plainDay();
        x.set(END, 26);
        due("best(): one too few", x.best(), NONE);
        x.set(END, 25);
        due("best(): just END", x.best(), 10000000);
        x.set(FLOW, 1);
        due("best(): FLOW takes some of it", x.best(), NONE);
        x.set(LOW, 25);
        due("best(): but nothing below LOW", x.best(), 10000000 - 24 * 50);
        due("hour(0, 2): nothing changes", x.hour(0, 2), 100);
        x.set(HIGH, 200);
        x.set(END, 200);
        x.set(BEGIN, 200);
        x.set(LOW, 200);
        due("best(): full, and it stays so", x.best(), 10000000 - 24 * 50);
        x.set(BEGIN, 199);
        due("best(): one below full, and nothing comes", x.best(), NONE);
        x.inflow(23, 1);
        due("best(): but in the last hour", x.best(), 10000000 - 24 * 50);
    }

    private static void mostMoney() {
        sentence("Returns the most money of the day (by the best plan) and 10000000.");
        LakePlant x = plainDay();
        x.set(HIGH, 200);
        x.set(BEGIN, 200);
        x.set(PUMP, 30);
        x.set(FALL, 30);
        carriedOut(x, "p0-23=999;i0-23=99");
        for (int contract = 0; contract < 8; contract++) {
            x.contract(contract, 30, 9999, 9999);
        }
        due("best(): the most that can be", x.best(), 10000000 + 24 * 30 * 999 + 8 * 9999);
        x.set(BEGIN, 0);
        x.set(FALL, 0);
        x.set(LOSS, 1);
        x.set(FLOW, 29);
        x.set(DRY, 999);
        x.set(END, 1);
        carriedOut(x, "i0-23=0");
        due("best(): of 30 pumped, 29 come and are let down", x.best(), NONE);
        x.set(LOSS, 0);
        due("best(): in each hour as much is pumped as FLOW, in one of them one more", x.best(), 10000000 - 999 - 8 * 9999);
        x.set(PUMP, 0);
        x.set(END, 0);
        due("best(): every hour dry, and every contract missed", x.best(), 10000000 - 24 * 999 - 8 * 9999);
    }

    private static void bestPlan() {
        sentence("Returns the plan; NO_SUCH if there is no such hour; NONE if there is none.");
        LakePlant x = plainDay();
        due("bestPlan(-1)", x.bestPlan(-1), NO_SUCH);
        due("bestPlan(24)", x.bestPlan(24), NO_SUCH);
        x.price(0, 9);
        x.price(23, 30);
        due("bestPlan(0)", x.bestPlan(0), 100);
        due("bestPlan(7)", x.bestPlan(7), 105);
        due("bestPlan(23)", x.bestPlan(23), 110);
        x.set(END, 26);
        due("bestPlan(0) without one", x.bestPlan(0), NONE);
        due("bestPlan(23) without one", x.bestPlan(23), NONE);
        due("bestPlan(24) without one", x.bestPlan(24), NO_SUCH);
        x.set(PUMP, 30);
        x.set(FALL, 30);
        x.set(END, 25);
        x.price(0, 0);
        due("bestPlan(0): as much as can be pumped", x.bestPlan(0), 70);
        due("bestPlan(23): as much as can be let down", x.bestPlan(23), 130);
    }

    private static void worthRange() {
        sentence("`units`: -200 to 200: so much more, or less; BEGIN with it has to be 0 to 200");
        LakePlant x = plainDay();
        due("worth(175): 200", x.worth(175), 10000000);
        due("worth(176): 201", x.worth(176), BAD_VALUE);
        due("worth(-25): 0", x.worth(-25), 10000000 - 300);
        due("worth(-26): -1", x.worth(-26), BAD_VALUE);
        due("worth(201)", x.worth(201), BAD_VALUE);
        due("worth(-201)", x.worth(-201), BAD_VALUE);
        due("worth(most int), with which BEGIN would be above all ints", x.worth(MOST_INT), BAD_VALUE);
        due("worth(least int)", x.worth(LEAST_INT), BAD_VALUE);
        x.set(BEGIN, 0);
        due("worth(200)", x.worth(200), 10000300);
        due("worth(201)", x.worth(201), BAD_VALUE);
        due("worth(-1)", x.worth(-1), BAD_VALUE);
        x.set(BEGIN, 200);
        due("worth(-200)", x.worth(-200), 10000000 - 300);
        due("worth(-201)", x.worth(-201), BAD_VALUE);
        due("worth(1)", x.worth(1), BAD_VALUE);
        due("count(BEGIN): nothing changes", x.count(BEGIN), 200);
    }

    private static void worth() {
        sentence("Returns how much more the most money would be with another level ahead of the day, and 10000000 more.");
        LakePlant x = plainDay();
        x.plan(7, 1);
        due("worth(-24): not by the plan that there is", x.worth(-24), 10000000 - 280);
        due("worth(-10): 5 less for 10", x.worth(-10), 10000000 - 50);
        x.plan(7, 0);
        sentence("Returns the difference; BAD_VALUE if units is out of range; NONE if there is no plan with or without it.");
        due("worth(0)", x.worth(0), 10000000);
        due("worth(1): both hours are sold out", x.worth(1), 10000000);
        due("worth(-5): still sold out", x.worth(-5), 10000000);
        due("worth(-6): one less", x.worth(-6), 10000000 - 10);
        x.set(END, 25);
        due("worth(0): a plan", x.worth(0), 10000000);
        due("worth(-1): no plan with it", x.worth(-1), NONE);
        due("worth(1)", x.worth(1), 10000020);
        x.set(END, 26);
        due("worth(0): no plan", x.worth(0), NONE);
        due("worth(1): no plan without it", x.worth(1), NONE);
        due("worth(-1): no plan either way", x.worth(-1), NONE);
        due("worth(176): out of range, and no plan", x.worth(176), BAD_VALUE);
        due("worth(-26): out of range, and no plan", x.worth(-26), BAD_VALUE);
    }

    private static void highest() {
        sentence("Returns the greatest level that the day can have in the end by any plan.");
        LakePlant x = plainDay();
        due("highest(): nothing comes", x.highest(), 25);
        x.set(PUMP, 5);
        due("highest(): 25 and 24 times 5", x.highest(), 145);
        x.set(PUMP, 6);
        due("highest(): HIGH", x.highest(), 150);
        x.plan(0, 10);
        due("highest(): not by the plan that there is", x.highest(), 150);
        x.set(END, 200);
        due("highest(): nor by those alone that reach END", x.highest(), 150);
        x.set(HIGH, 0);
        due("highest() with HIGH 0", x.highest(), 0);
        x.set(HIGH, 200);
        x.set(BEGIN, 200);
        due("highest() of all", x.highest(), 200);
        x.set(FLOW, 30);
        due("highest(): FLOW is let down down to LOW in the end", x.highest(), 0);
        x.set(LOW, 7);
        due("highest(): LOW", x.highest(), 7);
        x.set(LOW, 0);
        x.set(BEGIN, 0);
        x.set(PUMP, 30);
        x.set(LOSS, 1);
        x.set(FLOW, 29);
        due("highest(): all that comes is let down", x.highest(), 0);
        x.set(FLOW, 28);
        due("highest(): all but one an hour", x.highest(), 24);
    }

    private static void putCharacters() {
        sentence("They are given as a number: its lowest 8 bits are the last character, the next 8 bits the one before, and so on; "
            + "8 bits that are 0 mean that there are no more characters, and everything above them has to be 0, too.");
        LakePlant x = new LakePlant();
        due("put(i7=8;p1=)", x.put(0x69373D383B70313DL), 8);
        due("put(2)", x.put(0x32), 9);
        due("carryOut(): the first character came first", x.carryOut(), 2);
        due("hour(7, 1)", x.hour(7, 1), 8);
        due("hour(1, 0)", x.hour(1, 0), 2);
        for (int zero = 0; zero < 7; zero++) {
            long characters = 0x6161616161616161L & ~(255L << 8 * zero);
            due("put of eight, of which the bits at " + 8 * zero + " are 0", x.put(characters), BAD_VALUE);
            due("put of one bit above 0 bits at " + 8 * zero, x.put((0x6161616161616161L & (1L << 8 * zero) - 1) | 1L << 8 * zero + 8), BAD_VALUE);
        }
        due("put of the top bit above one character", x.put(Long.MIN_VALUE | 'a'), BAD_VALUE);
        due("count(11)", x.count(11), 0);
    }

    private static void putRange() {
        sentence("`characters`: 1 to 8 characters");
        LakePlant x = new LakePlant();
        due("put of none", x.put(0), BAD_VALUE);
        int length = 0;
        for (int n = 1; n <= 8; n++) {
            length += n;
            due("put of " + n, x.put(packed("a;a;a;a;".substring(0, n))), length);
        }
        sentence("BAD_VALUE if there is no character, a code is not 33 to 126, or a bit above 8 bits that are 0 is not 0");
        for (int code = 0; code < 256; code++) {
            boolean right = code >= 33 && code <= 126;
            LakePlant one = new LakePlant();
            due("put(" + code + ")", one.put(code), right ? 1 : BAD_VALUE);
            due("put of " + code + " and a", one.put((long) code << 8 | 'a'), right ? 3 : code == 0 ? 1 : BAD_VALUE);
            due("put of a and " + code, one.put('a' << 8 | code), right ? 5 : BAD_VALUE);
            due("put of " + code + " and seven a", one.put((long) code << 56 | packed("aaaaaaa")), right ? 13 : code == 0 ? 8 : BAD_VALUE);
        }
        due("put(-1)", x.put(-1), BAD_VALUE);
        due("put(most long)", x.put(Long.MAX_VALUE), BAD_VALUE);
        due("put(least long)", x.put(Long.MIN_VALUE), BAD_VALUE);
        due("count(11)", x.count(11), 36);
    }

    private static void putTooMany() {
        sentence("Returns the length of the pad then; BAD_VALUE if there is no character");
        LakePlant whole = new LakePlant();
        for (int length = 1; length <= 80; length++) {
            due("put of one", whole.put('a'), length);
            due("put of none", whole.put(0), BAD_VALUE);
        }
        sentence("TOO_MANY if the pad would be longer than 80.");
        for (int length = 72; length <= 80; length++) {
            for (int n = 1; n <= 8; n++) {
                LakePlant x = new LakePlant();
                write(x, textOf(length));
                due("put of " + n + " at " + length, x.put(packed("xxxxxxxx".substring(0, n))), length + n > 80 ? TOO_MANY : length + n);
                due("count(11) then", x.count(11), length + n > 80 ? length : length + n);
            }
        }
        LakePlant x = new LakePlant();
        write(x, textOf(80));
        due("put of no character at 80", x.put(0), BAD_VALUE);
        due("put of a wrong code at 80", x.put(127), BAD_VALUE);
    }

    private static void wipe() {
        sentence("Empties the pad, and returns the length that it had.");
        LakePlant x = new LakePlant();
        due("wipe() of an empty one", x.wipe(), 0);
        x.put('a');
        due("wipe() of one", x.wipe(), 1);
        due("wipe() again", x.wipe(), 0);
        write(x, textOf(80));
        due("wipe() of a full one", x.wipe(), 80);
        due("count(11)", x.count(11), 0);
        due("put of one", x.put('a'), 1);
        due("fault(): nothing is left of what was wiped", x.fault(), NONE);
        due("count(12): no change", x.count(12), 0);
    }

    private static void fault() {
        sentence("Returns the fault of the pad, NONE if there is none.");
        LakePlant x = new LakePlant();
        due("fault() of an empty one", x.fault(), 0);
        x.put('a');
        due("fault() of a", x.fault(), NONE);
        x.put(';');
        due("fault() of a;", x.fault(), 2);
        x.put('x');
        due("fault() of a;x", x.fault(), 2);
        due("count(11): it stays", x.count(11), 3);
    }

    private static void carryOut() {
        sentence("Carries the orders of the pad out, one after the other, up to the first one that returns an error, and empties the pad.");
        LakePlant x = new LakePlant();
        due("the first of three is refused", carriedOut(x, "p24=1;p1=1;p2=1"), 0);
        due("count(11)", x.count(11), 0);
        due("hour(1, 0)", x.hour(1, 0), 100);
        due("the second of three is refused", carriedOut(x, "p1=1;i1=100;p2=1"), 1);
        due("hour(1, 0)", x.hour(1, 0), 1);
        due("hour(2, 0)", x.hour(2, 0), 100);
        due("the last of three is refused", carriedOut(x, "p1=2;p2=2;u0=21"), 2);
        due("hour(2, 0)", x.hour(2, 0), 2);
        due("none is refused", carriedOut(x, "p1=3;p1=4;p2=0"), 3);
        due("hour(1, 0): the later one", x.hour(1, 0), 4);
        due("an answer 0 is no error", carriedOut(x, "p2=0;p2=5;c0:1+0-0;p3=6"), 4);
        due("count(11)", x.count(11), 0);
    }

    private static void carryOutIsOneChange() {
        sentence("This is a change (one, with all of them; also if none is carried out).");
        LakePlant x = new LakePlant();
        due("forty orders", carriedOut(x, "p0=1;i0=1;u0=1;c0:1+1-1;" + textOf(55)), 32);
        due("count(12)", x.count(12), 1);
        due("undo()", x.undo(), 0);
        due("hour(0, 0)", x.hour(0, 0), 100);
        due("hour(0, 1)", x.hour(0, 1), 3);
        due("hour(0, 2)", x.hour(0, 2), 100);
        due("count(10)", x.count(10), 0);
        due("none is carried out", carriedOut(x, "p24=1"), 0);
        due("count(12)", x.count(12), 1);
        due("none is carried out, though two hours are changed", carriedOut(x, "p22-24=1"), 0);
        due("count(12)", x.count(12), 2);
        due("undo()", x.undo(), 1);
        due("hour(22, 0)", x.hour(22, 0), 100);
        due("undo() of nothing", x.undo(), 0);
        sentence("Returns how many orders were carried out; BAD_TEXT if the pad has a fault (then it stays).");
        due("carryOut() of nothing", x.carryOut(), BAD_TEXT);
        write(x, "p1=2;a;x");
        due("carryOut() with a fault in the end", x.carryOut(), BAD_TEXT);
        due("count(11)", x.count(11), 8);
        due("hour(1, 0)", x.hour(1, 0), 100);
        due("carryOut() again", x.carryOut(), BAD_TEXT);
        due("count(12)", x.count(12), 0);
    }

    private static void undo() {
        sentence("Undoes the latest change: everything except the pad, the slots and the history is as it was before it.");
        LakePlant x = new LakePlant();
        x.price(0, 1);
        x.save(0);
        write(x, "p1=");
        x.price(0, 2);
        x.save(1);
        x.put('5');
        int best = x.best();
        x.price(18, 999);
        due("best() is another one", x.best() == best ? 1 : 0, 0);
        due("undo()", x.undo(), 2);
        due("best() as before", x.best(), best);
        due("hour(18, 0)", x.hour(18, 0), 100);
        due("undo()", x.undo(), 1);
        due("hour(0, 0)", x.hour(0, 0), 1);
        due("undo()", x.undo(), 0);
        due("hour(0, 0)", x.hour(0, 0), 100);
        due("count(11): the pad is as it is", x.count(11), 4);
        due("carryOut(): what was put behind it, too", x.carryOut(), 1);
        due("hour(1, 0)", x.hour(1, 0), 5);
        due("restore(1): the slots are as they are", x.restore(1) > 0 ? 1 : 0, 1);
        due("hour(0, 0)", x.hour(0, 0), 2);
        due("restore(0)", x.restore(0) > 0 ? 1 : 0, 1);
        due("hour(0, 0)", x.hour(0, 0), 1);
    }

    /** A day that is another one than a new one, with something of everything, and a slot that has another state. */
    private static LakePlant busyDay() {
        LakePlant x = new LakePlant();
        x.inflow(4, 33);
        x.save(0);
        x.set(PUMP, 25);
        carriedOut(x, "p5=6;u7=-8;u9=10;c9:10+11-12;c13:14+15-16");
        return x;
    }

    /** One change of each kind, each of which changes something of that day. */
    private static final List<ToIntFunction<LakePlant>> CHANGES = List.of(x -> x.set(YIELD, 80), x -> x.price(18, 900),
        x -> x.inflow(2, 50), x -> x.plan(2, 3), x -> x.contract(2, 20, 9999, 0), x -> x.drop(0), LakePlant::adopt,
        x -> carriedOut(x, "p18=900;u2=3"), x -> x.restore(0));

    private static void undoOfEachChange() {
        sentence("everything except the pad, the slots and the history is as it was before it.");
        for (int kind = 0; kind < CHANGES.size(); kind++) {
            LakePlant x = busyDay();
            LakePlant other = busyDay();
            other.set(YIELD, 90);
            due("whether change " + kind + " fails", CHANGES.get(kind).applyAsInt(x) < 0 ? 1 : 0, 0);
            due("whether all is as before behind change " + kind, alike(x, other), 0);
        }
        for (int kind = 0; kind < CHANGES.size(); kind++) {
            LakePlant x = busyDay();
            CHANGES.get(kind).applyAsInt(x);
            due("undo() of change " + kind, x.undo(), 3);
            due("whether everything is as before change " + kind, alike(x, busyDay()), 1);
        }
    }

    private static void undoOfEachSetting() {
        sentence("everything except the pad, the slots and the history is as it was before it.");
        for (int setting = 0; setting < 10; setting++) {
            LakePlant x = busyDay();
            int value = x.count(setting);
            due("set(" + setting + ", .)", x.set(setting, value + 1), value);
            x.undo();
            due("whether everything is as before set(" + setting + ", .)", alike(x, busyDay()), 1);
        }
        for (int hour = 0; hour < 24; hour++) {
            LakePlant x = busyDay();
            x.price(hour, 55);
            x.inflow(hour, 55);
            x.plan(hour, 5);
            x.undo();
            x.undo();
            x.undo();
            due("whether everything is as before the changes of hour " + hour, alike(x, busyDay()), 1);
        }
    }

    /** Whether a best plan was asked for ahead of a change or an undo, that makes no difference behind it. */
    private static void nothingChangesByAsking() {
        sentence("---- the best plan; nothing changes.");
        for (int kind = 0; kind < CHANGES.size(); kind++) {
            LakePlant x = busyDay();
            LakePlant other = busyDay();
            x.best();
            x.bestPlan(0);
            x.worth(1);
            x.highest();
            due("change " + kind + " behind best()", CHANGES.get(kind).applyAsInt(x), CHANGES.get(kind).applyAsInt(other));
            due("whether everything is the same behind change " + kind, alike(x, other), 1);
            for (int then = 0; then < CHANGES.size(); then++) {
                x = busyDay();
                other = busyDay();
                x.best();
                CHANGES.get(kind).applyAsInt(x);
                CHANGES.get(kind).applyAsInt(other);
                due("change " + then + " behind change " + kind, CHANGES.get(then).applyAsInt(x), CHANGES.get(then).applyAsInt(other));
                due("whether everything is the same behind the changes " + kind + " and " + then, alike(x, other), 1);
            }
            x = busyDay();
            other = busyDay();
            CHANGES.get(kind).applyAsInt(x);
            CHANGES.get(kind).applyAsInt(other);
            x.best();
            due("undo() of change " + kind + " behind best()", x.undo(), other.undo());
            due("whether everything is the same behind undo() of change " + kind, alike(x, other), 1);
        }
    }

    private static void historyOf6() {
        sentence("A history of at most 6 states is kept");
        LakePlant x = new LakePlant();
        for (int i = 1; i <= 5; i++) {
            x.price(0, i);
        }
        due("count(12) of five", x.count(12), 5);
        x.price(0, 6);
        due("count(12) of six", x.count(12), 6);
        x.price(0, 7);
        due("count(12) of seven", x.count(12), 6);
        sentence("when one more is recorded, the oldest one is dropped.");
        for (int i = 6; i >= 1; i--) {
            due("undo()", x.undo(), i - 1);
            due("hour(0, 0)", x.hour(0, 0), i);
        }
        due("undo() of the oldest one", x.undo(), NOT_POSSIBLE);
        due("hour(0, 0)", x.hour(0, 0), 1);
        for (int i = 2; i <= 30; i++) {
            x.price(0, i);
        }
        for (int i = 29; i >= 24; i--) {
            due("undo() behind many rounds", x.undo(), i - 24);
            due("hour(0, 0)", x.hour(0, 0), i);
        }
        due("undo()", x.undo(), NOT_POSSIBLE);
        x.price(0, 25);
        x.price(0, 26);
        x.undo();
        x.price(0, 27);
        due("count(12): what was undone is not kept", x.count(12), 2);
        x.undo();
        due("hour(0, 0)", x.hour(0, 0), 25);
        x.undo();
        due("hour(0, 0)", x.hour(0, 0), 24);
    }

    private static void eachChangeRecords() {
        sentence("each method that is a change, and returns no error, records the state before it (also if nothing is different then)");
        LakePlant x = new LakePlant();
        due("set() to the same", x.set(PUMP, 20), 20);
        due("price() to the same", x.price(0, 100), 100);
        due("inflow() to the same", x.inflow(0, 3), 3);
        due("plan() to the same", x.plan(0, 0), 100);
        due("count(12)", x.count(12), 4);
        x.save(0);
        due("restore() of the same", x.restore(0), 10004320);
        due("count(12)", x.count(12), 5);
        for (int i = 4; i >= 0; i--) {
            due("undo()", x.undo(), i);
        }
        due("contract()", x.contract(0, 1, 0, 0), 0);
        due("drop()", x.drop(0), 0);
        x.adopt();
        due("count(12)", x.count(12), 3);
        due("adopt() of the same", x.adopt(), 0);
        due("count(12)", x.count(12), 4);
        due("carryOut() of the same", carriedOut(x, "p0=100"), 1);
        due("count(12)", x.count(12), 5);
        due("price(24, 0), an error", x.price(24, 0), NO_SUCH);
        due("plan(0, 21), an error", x.plan(0, 21), BAD_VALUE);
        due("carryOut(), an error", x.carryOut(), BAD_TEXT);
        due("restore(1), an error", x.restore(1), NOT_POSSIBLE);
        due("count(12)", x.count(12), 5);
    }

    private static void whatIsNoChange() {
        sentence("each method that is a change");
        LakePlant x = new LakePlant();
        x.price(0, 1);
        everything(x);
        x.put('a');
        x.wipe();
        x.fault();
        x.save(0);
        x.save(1);
        due("count(12): these are none", x.count(12), 1);
        x.undo();
        due("count(12): nor is undo()", x.count(12), 0);
        due("undo()", x.undo(), NOT_POSSIBLE);
    }

    private static void ordersRecordNothing() {
        sentence("An order of a text records nothing by itself.");
        LakePlant x = new LakePlant();
        x.price(0, 1);
        x.price(0, 2);
        carriedOut(x, "p0=3;p0=4;i0=5;u0=6;a;c0:1+1-1;p0=7;p0=8;p0=9");
        due("count(12)", x.count(12), 3);
        due("undo()", x.undo(), 2);
        due("hour(0, 0): as ahead of all orders", x.hour(0, 0), 2);
        due("undo()", x.undo(), 1);
        due("hour(0, 0)", x.hour(0, 0), 1);
    }

    private static void undoAnswers() {
        sentence("Returns how many changes can be undone then; NOT_POSSIBLE if there is none.");
        LakePlant x = new LakePlant();
        due("undo() of a new object", x.undo(), NOT_POSSIBLE);
        x.price(0, 1);
        due("undo() of one", x.undo(), 0);
        due("undo() again", x.undo(), NOT_POSSIBLE);
        for (int i = 0; i < 6; i++) {
            x.price(0, i);
        }
        due("undo() of six", x.undo(), 5);
    }

    private static void save() {
        sentence("Saves everything except the pad, the history and the slots in a slot, and overwrites what was saved there.");
        LakePlant x = new LakePlant();
        x.price(0, 200);
        due("save(0)", x.save(0), 10004500);
        x.price(0, 300);
        due("save(1)", x.save(1), 10004680);
        due("count(12): no change", x.count(12), 2);
        x.price(0, 400);
        due("save(0): overwrites", x.save(0), 10004860);
        x.put('a');
        x.price(0, 0);
        due("restore(0)", x.restore(0), 10004860);
        due("hour(0, 0)", x.hour(0, 0), 400);
        due("count(11): not the pad", x.count(11), 1);
        due("count(12): not the history", x.count(12), 5);
        due("restore(1): nor the other slot", x.restore(1), 10004680);
        sentence("`slot`: 0 or 1 Returns the money of the day by the plan, and 10000000; BAD_VALUE if there is no such slot.");
        due("save(-1)", x.save(-1), BAD_VALUE);
        due("save(2)", x.save(2), BAD_VALUE);
        due("restore(-1)", x.restore(-1), BAD_VALUE);
        due("restore(2)", x.restore(2), BAD_VALUE);
    }

    private static void restore() {
        sentence("Restores what was saved last in a slot, which keeps it. This is a change.");
        LakePlant x = new LakePlant();
        x.set(PUMP, 5);
        carriedOut(x, "p1=11;i2=12;u3=13;u4=-5;c3:14+15-16");
        due("save(1)", x.save(1), x.day(0));
        LakePlant saved = new LakePlant();
        saved.set(PUMP, 5);
        carriedOut(saved, "p1=11;i2=12;u3=13;u4=-5;c3:14+15-16");
        saved.save(1);
        carriedOut(x, "u4=0;p1-9=0;i1-9=0;u1-9=0;c5:1+1-1");
        x.drop(0);
        x.set(PUMP, 25);
        x.set(FALL, 0);
        x.set(HIGH, 20);
        carriedOut(saved, "a");
        x.undo();
        for (int i = 0; i < 3; i++) {
            due("restore(1), time " + i, x.restore(1), saved.restore(1));
            due("count(PUMP)", x.count(PUMP), 5);
            due("count(FALL)", x.count(FALL), 20);
            due("hour(4, 2)", x.hour(4, 2), 95);
            due("ofContract(0, 3)", x.ofContract(0, 3), 16);
            due("count(10)", x.count(10), 1);
            due("best()", x.best(), saved.best());
            due("bestPlan(4)", x.bestPlan(4), saved.bestPlan(4));
            x.price(1, 0);
            x.plan(4, 0);
            x.drop(0);
        }
        x.undo();
        x.undo();
        x.undo();
        due("undo() of restore()", x.undo(), 2);
        due("count(10): as before it", x.count(10), 0);
        due("hour(1, 0): as before it", x.hour(1, 0), 0);
    }

    private static void restoreAnswers() {
        sentence("`slot`: 0 or 1 Returns the money of the day by the plan, and 10000000 then; BAD_VALUE if there is no such slot; "
            + "NOT_POSSIBLE if nothing was saved in it.");
        LakePlant x = new LakePlant();
        due("restore(0)", x.restore(0), NOT_POSSIBLE);
        due("restore(1)", x.restore(1), NOT_POSSIBLE);
        due("restore(2)", x.restore(2), BAD_VALUE);
        x.save(2);
        x.save(1);
        due("restore(0): only the other slot has something", x.restore(0), NOT_POSSIBLE);
        due("count(12)", x.count(12), 0);
        due("restore(1)", x.restore(1), 10004320);
        due("undo()", x.undo(), 0);
        due("restore(1): undo() leaves the slots", x.restore(1), 10004320);
        due("restore(0)", x.restore(0), NOT_POSSIBLE);
    }

    public static void main(String[] args) {
        newObject();
        setting();
        price();
        inflow();
        plan();
        contractRanges();
        contract();
        drop();
        adopt();
        hour();
        moneyOfAnHour();
        ofContract();
        day();
        dayOfCutHours();
        dayRanges();
        troubled();
        count();
        best();
        mostMoney();
        bestPlan();
        worthRange();
        worth();
        highest();
        putCharacters();
        putRange();
        putTooMany();
        wipe();
        fault();
        carryOut();
        carryOutIsOneChange();
        undo();
        undoOfEachChange();
        undoOfEachSetting();
        nothingChangesByAsking();
        historyOf6();
        eachChangeRecords();
        whatIsNoChange();
        ordersRecordNothing();
        undoAnswers();
        save();
        restore();
        restoreAnswers();
        end();
    }
}
