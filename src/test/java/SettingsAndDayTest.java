/**
 * The sentences of the document's terms 'Settings' and 'Day' that name a boundary. Each of them is told in its test.
 */
public final class SettingsAndDayTest extends Sentences {

    // ---- settings

    /** A setting from 0 to most, on a day on which no other setting stands in its way. */
    private static void range(String words, int setting, int most, int first) {
        sentence(words);
        due("count(" + setting + ") of a new object", new LakePlant().count(setting), first);
        LakePlant x = new LakePlant();
        x.set(LOW, 0);
        x.set(HIGH, 200);
        int now = x.count(setting);
        due("set(" + setting + ", " + most + ")", x.set(setting, most), now);
        due("set(" + setting + ", " + (most + 1) + ")", x.set(setting, most + 1), BAD_VALUE);
        due("set(" + setting + ", most int)", x.set(setting, MOST_INT), BAD_VALUE);
        due("count(" + setting + ") at the top", x.count(setting), most);
        if (setting == HIGH) {
            due("set(LOW, 0)", x.set(LOW, 0), 0);
        }
        due("set(" + setting + ", 0)", x.set(setting, 0), most);
        due("set(" + setting + ", -1)", x.set(setting, -1), BAD_VALUE);
        due("set(" + setting + ", least int)", x.set(setting, LEAST_INT), BAD_VALUE);
        due("count(" + setting + ") at the bottom", x.count(setting), 0);
    }

    private static void ranges() {
        range("PUMP (0 to 30; 20)", PUMP, 30, 20);
        range("FALL (0 to 30; 20)", FALL, 30, 20);
        range("LOSS (0 to 100; 25)", LOSS, 100, 25);
        range("YIELD (0 to 100; 90)", YIELD, 100, 90);
        range("FLOW (0 to 30; 2)", FLOW, 30, 2);
        range("LOW (0 to 200; 20)", LOW, 200, 20);
        range("HIGH (0 to 200; 150)", HIGH, 200, 150);
        range("BEGIN (0 to 200; 80)", BEGIN, 200, 80);
        range("END (0 to 200; 80)", END, 200, 80);
        range("DRY (0 to 999; 50)", DRY, 999, 50);
    }

    private static void mostInAnHour() {
        sentence("the most that is pumped or let down in an hour by the plan");
        LakePlant x = new LakePlant();
        x.set(FALL, 1);
        x.set(PUMP, 1);
        due("plan(0, 1), just FALL", x.plan(0, 1), 100);
        due("hour(0, 3): FLOW is let down, though it is above FALL", x.hour(0, 3), 2);
        due("plan(0, 2), above FALL", x.plan(0, 2), BAD_VALUE);
        due("plan(0, -1), just PUMP", x.plan(0, -1), 101);
        due("plan(0, -2), below PUMP", x.plan(0, -2), BAD_VALUE);
        x = plainDay();
        x.set(FALL, 3);
        due("best(): 3 in each of two hours", x.best(), 10000090);
        x.set(FALL, 0);
        due("best() with FALL 0", x.best(), 10000000);
        x.set(FALL, 30);
        due("best(): all of 25 in the dearer hour", x.best(), 10000500);
        x.set(BEGIN, 60);
        due("best(): 30 in each of two hours", x.best(), 10000900);
        due("bestPlan(15): just FALL", x.bestPlan(15), 130);
        x.set(FLOW, 30);
        x.set(DRY, 0);
        carriedOut(x, "p0-23=0;p0=10;p1=20");
        due("best(): FLOW just as much as FALL", x.best(), 10000900);
        due("bestPlan(1): the least of what FLOW does anyway", x.bestPlan(1), 100);
        x.set(FLOW, 0);
        x.set(PUMP, 30);
        x.set(BEGIN, 0);
        x.set(END, 30);
        carriedOut(x, "p0-23=9;p2=0");
        due("best(): 30 pumped for nothing in one hour", x.best(), 10000000);
        due("bestPlan(2): just PUMP", x.bestPlan(2), 70);
        x.set(END, 31);
        due("best(): one more pumped for 9", x.best(), 10000000 - 9);
    }

    private static void hundredths() {
        sentence("LOSS (0 to 100; 25) and YIELD (0 to 100; 90), in hundredths");
        LakePlant x = new LakePlant();
        x.plan(0, -20);
        due("hour(0, 5) with LOSS 25", x.hour(0, 5), 5);
        x.set(LOSS, 100);
        due("hour(0, 5) with LOSS 100: all of it", x.hour(0, 5), 20);
        x.set(LOSS, 0);
        due("hour(0, 5) with LOSS 0: nothing", x.hour(0, 5), 0);
        due("hour(1, 8) with YIELD 90", x.hour(1, 8), 1000180);
        x.set(YIELD, 100);
        due("hour(1, 8) with YIELD 100: all of it", x.hour(1, 8), 1000200);
        x.set(YIELD, 0);
        due("hour(1, 8) with YIELD 0: nothing", x.hour(1, 8), 1000000);
    }

    private static void lowNotAboveHigh() {
        sentence("LOW not above HIGH");
        LakePlant x = new LakePlant();
        due("set(LOW, 151)", x.set(LOW, 151), NOT_POSSIBLE);
        due("set(LOW, 150), just HIGH", x.set(LOW, 150), 20);
        due("set(HIGH, 149)", x.set(HIGH, 149), NOT_POSSIBLE);
        due("set(HIGH, 151)", x.set(HIGH, 151), 150);
        due("set(HIGH, 150), just LOW", x.set(HIGH, 150), 151);
        due("set(LOW, 0)", x.set(LOW, 0), 150);
        due("set(HIGH, 0), both 0", x.set(HIGH, 0), 150);
        due("set(LOW, 1)", x.set(LOW, 1), NOT_POSSIBLE);
        due("day(4): all that there is but FLOW is spilled", x.day(4), 80 + 72 - 48);
        due("hour(0, 7)", x.hour(0, 7), 0);
    }

    private static void levelAheadOfTheDay() {
        sentence("the level ahead of the day");
        LakePlant x = new LakePlant();
        x.set(BEGIN, 0);
        due("hour(0, 7) from 0: below LOW it is no error", x.hour(0, 7), 3);
        due("hour(0, 3)", x.hour(0, 3), 0);
        x.set(BEGIN, 200);
        due("hour(0, 6) from 200: above HIGH it is no error", x.hour(0, 6), 200 + 3 - 2 - 150);
        due("hour(0, 7)", x.hour(0, 7), 150);
        x.set(HIGH, 200);
        due("hour(0, 6) from 200 up to 200", x.hour(0, 6), 1);
    }

    private static void levelInTheEnd() {
        sentence("the level that there should be in the end");
        LakePlant x = new LakePlant();
        x.set(END, 104);
        due("day(9), just END", x.day(9), 1);
        x.set(END, 105);
        due("day(9), one too few", x.day(9), 0);
        due("day(5)", x.day(5), 104);
        due("day(0): nothing is paid for it", x.day(0), 10004320);
        due("set(END, 200): it may be above HIGH", x.set(END, 200), 105);
        due("set(END, 0): and below LOW", x.set(END, 0), 200);
    }

    // ---- the day: what there is

    private static void hoursOfTheDay() {
        sentence("A day has 24 hours, 0 to 23");
        LakePlant x = new LakePlant();
        due("price(-1, 0)", x.price(-1, 0), NO_SUCH);
        due("price(24, 0)", x.price(24, 0), NO_SUCH);
        for (int hour = 0; hour < 24; hour++) {
            due("price(" + hour + ", .)", x.price(hour, hour), 100);
            due("inflow(" + hour + ", .)", x.inflow(hour, 4), 3);
            due("plan(" + hour + ", .)", x.plan(hour, -1), 100);
        }
        for (int hour = 0; hour < 24; hour++) {
            due("hour(" + hour + ", 0)", x.hour(hour, 0), hour);
        }
        due("day(10)", x.day(10), 96);
        due("day(2)", x.day(2), 24);
    }

    private static void pricesOfTheDay() {
        sentence("each with a price (0 to 999; 100 at first)");
        LakePlant x = new LakePlant();
        for (int hour : new int[] {0, 11, 23}) {
            due("hour(" + hour + ", 0) of a new object", x.hour(hour, 0), 100);
            due("price(" + hour + ", 999)", x.price(hour, 999), 100);
            due("price(" + hour + ", 1000)", x.price(hour, 1000), BAD_VALUE);
            due("hour(" + hour + ", 8): 2 for 999 each", x.hour(hour, 8), 1001798);
            due("price(" + hour + ", 0)", x.price(hour, 0), 999);
            due("price(" + hour + ", -1)", x.price(hour, -1), BAD_VALUE);
            due("hour(" + hour + ", 0)", x.hour(hour, 0), 0);
            due("hour(" + hour + ", 8): 2 for nothing", x.hour(hour, 8), 1000000);
        }
    }

    private static void inflowsOfTheDay() {
        sentence("an inflow (0 to 99; 3 at first)");
        LakePlant x = new LakePlant();
        for (int hour : new int[] {0, 11, 23}) {
            due("hour(" + hour + ", 1) of a new object", x.hour(hour, 1), 3);
            due("inflow(" + hour + ", 99)", x.inflow(hour, 99), 3);
            due("inflow(" + hour + ", 100)", x.inflow(hour, 100), BAD_VALUE);
            due("inflow(" + hour + ", 0)", x.inflow(hour, 0), 99);
            due("inflow(" + hour + ", -1)", x.inflow(hour, -1), BAD_VALUE);
            due("hour(" + hour + ", 1)", x.hour(hour, 1), 0);
        }
        due("day(5)", x.day(5), 104 - 9);
    }

    private static void plansOfTheDay() {
        sentence("a plan: 0 at first, above 0 so much is let down, below 0 so much is pumped");
        LakePlant x = new LakePlant();
        due("hour(23, 2) of a new object", x.hour(23, 2), 100);
        x.set(FLOW, 0);
        int[][] rows = {{0, 0, 0}, {1, 1, 0}, {20, 20, 0}, {-1, 0, 1}, {-20, 0, 20}};
        for (int[] row : rows) {
            x.plan(23, row[0]);
            due("hour(23, 3) with plan " + row[0], x.hour(23, 3), row[1]);
            due("hour(23, 4) with plan " + row[0], x.hour(23, 4), row[2]);
        }
    }

    private static void plansFromPumpToFall() {
        sentence("A plan is from PUMP below 0 up to FALL.");
        LakePlant x = new LakePlant();
        x.set(PUMP, 4);
        x.set(FALL, 7);
        due("plan(9, -5)", x.plan(9, -5), BAD_VALUE);
        due("plan(9, -4)", x.plan(9, -4), 100);
        due("plan(9, 8)", x.plan(9, 8), BAD_VALUE);
        due("plan(9, 7)", x.plan(9, 7), 96);
        due("plan(9, 0)", x.plan(9, 0), 107);
        x.set(PUMP, 0);
        x.set(FALL, 0);
        due("plan(9, -1) with PUMP 0", x.plan(9, -1), BAD_VALUE);
        due("plan(9, 1) with FALL 0", x.plan(9, 1), BAD_VALUE);
        due("plan(9, 0) with both 0", x.plan(9, 0), 100);
        x.set(PUMP, 30);
        x.set(FALL, 30);
        due("plan(9, -31)", x.plan(9, -31), BAD_VALUE);
        due("plan(9, -30)", x.plan(9, -30), 100);
        due("plan(9, 31)", x.plan(9, 31), BAD_VALUE);
        due("plan(9, 30)", x.plan(9, 30), 70);
    }

    private static void notLessThanAPlan() {
        sentence("PUMP and FALL cannot be less than what a plan has.");
        for (int hour : new int[] {0, 12, 23}) {
            LakePlant x = new LakePlant();
            x.plan(hour, -5);
            due("set(PUMP, 4) with plan -5 in hour " + hour, x.set(PUMP, 4), NOT_POSSIBLE);
            due("set(PUMP, 5)", x.set(PUMP, 5), 20);
            due("set(FALL, 0), as nothing is let down", x.set(FALL, 0), 20);
            x.set(FALL, 20);
            x.plan(hour, 6);
            due("set(FALL, 5) with plan 6 in hour " + hour, x.set(FALL, 5), NOT_POSSIBLE);
            due("set(FALL, 6)", x.set(FALL, 6), 20);
            due("set(PUMP, 0), as nothing is pumped", x.set(PUMP, 0), 5);
            due("set(PUMP, 31)", x.set(PUMP, 31), BAD_VALUE);
        }
    }

    private static void upTo8Contracts() {
        sentence("There are up to 8 contracts, each for an hour: at least so many units are let down in it; with a bonus and a fine.");
        LakePlant x = new LakePlant();
        for (int contract = 0; contract < 8; contract++) {
            due("contract " + contract, x.contract(4, 30, 1, 2), contract);
        }
        due("a ninth contract", x.contract(4, 30, 1, 2), TOO_MANY);
        due("count(10)", x.count(10), 8);
        due("day(8): all eight of one hour", x.day(8), 8);
        due("hour(4, 8): all eight of one hour are missed", x.hour(4, 8), 1000180 - 16);
        x.drop(3);
        due("a contract for the eighth place again", x.contract(23, 2, 9999, 9999), 7);
        due("ofContract(7, 4): at least 2 are let down", x.ofContract(7, 4), 1);
        due("hour(23, 8)", x.hour(23, 8), 1000180 + 9999);
    }

    // ---- the day: what happens in an hour

    private static void whatIsPumped() {
        sentence("What is pumped is that of the plan, if it is below 0, otherwise 0.");
        LakePlant x = new LakePlant();
        int[][] rows = {{-20, 20}, {-1, 1}, {0, 0}, {1, 0}, {20, 0}};
        for (int[] row : rows) {
            x.plan(0, row[0]);
            due("hour(0, 4) with plan " + row[0], x.hour(0, 4), row[1]);
        }
        x.plan(0, -20);
        x.set(BEGIN, 200);
        due("hour(0, 4): though the lake is full", x.hour(0, 4), 20);
        due("hour(0, 6): then it is spilled", x.hour(0, 6), 200 + 15 + 3 - 2 - 150);
    }

    private static void whatIsLost() {
        sentence("LOSS hundredths of it, rounded up, are lost.");
        LakePlant x = new LakePlant();
        x.set(PUMP, 30);
        int[][] rows = {{25, 0, 0}, {25, 1, 1}, {25, 4, 1}, {25, 5, 2}, {25, 7, 2}, {25, 8, 2}, {25, 9, 3}, {1, 1, 1},
            {1, 30, 1}, {0, 30, 0}, {100, 1, 1}, {100, 30, 30}, {99, 30, 30}, {50, 1, 1}, {50, 3, 2}, {34, 3, 2}, {33, 3, 1}};
        for (int[] row : rows) {
            x.set(LOSS, row[0]);
            x.plan(0, -row[1]);
            due("hour(0, 5) with LOSS " + row[0] + " and " + row[1] + " pumped", x.hour(0, 5), row[2]);
        }
        x.plan(0, 20);
        due("hour(0, 5): nothing of what is let down", x.hour(0, 5), 0);
    }

    private static void whatComes() {
        sentence("The rest comes into the lake, with the inflow.");
        LakePlant x = new LakePlant();
        x.set(FLOW, 0);
        x.plan(0, -5);
        due("hour(0, 7): 80 + 5 - 2 + 3", x.hour(0, 7), 86);
        x.plan(0, -1);
        due("hour(0, 7): nothing is left of one", x.hour(0, 7), 83);
        x.inflow(0, 0);
        x.plan(0, 0);
        due("hour(0, 7): nothing comes", x.hour(0, 7), 80);
        x.set(BEGIN, 20);
        x.inflow(0, 2);
        x.plan(0, 20);
        due("hour(0, 3): the inflow comes ahead of what is let down", x.hour(0, 3), 2);
        x.set(FLOW, 9);
        x.plan(0, -8);
        due("hour(0, 3): and so does what is pumped", x.hour(0, 3), 8);
    }

    private static void whatIsWanted() {
        sentence("What is wanted is what the plan lets down, but at least FLOW (also while it pumps).");
        LakePlant x = new LakePlant();
        x.set(FLOW, 5);
        int[][] rows = {{-20, 5}, {-1, 5}, {0, 5}, {4, 5}, {5, 5}, {6, 6}, {20, 20}};
        for (int[] row : rows) {
            x.plan(0, row[0]);
            due("hour(0, 3) with plan " + row[0], x.hour(0, 3), row[1]);
            due("hour(0, 9) with plan " + row[0], x.hour(0, 9), 0);
        }
        x.set(FLOW, 30);
        due("hour(0, 3): FLOW, though it is above FALL", x.hour(0, 3), 30);
        x.set(FLOW, 0);
        x.plan(0, -1);
        due("hour(0, 3): nothing while it pumps with FLOW 0", x.hour(0, 3), 0);
    }

    private static void notBelowLow() {
        sentence("So much is let down, but not so much that the level would come below LOW (none, if it is below LOW already).");
        LakePlant x = new LakePlant();
        x.plan(0, 10);
        int[][] rows = {{28, 10, 21}, {27, 10, 20}, {26, 9, 20}, {18, 1, 20}, {17, 0, 20}, {16, 0, 19}, {0, 0, 3}};
        for (int[] row : rows) {
            x.set(BEGIN, row[0]);
            due("hour(0, 3) from " + row[0], x.hour(0, 3), row[1]);
            due("hour(0, 7) from " + row[0], x.hour(0, 7), row[2]);
        }
        x.set(LOW, 0);
        due("hour(0, 3) down to 0", x.hour(0, 3), 3);
        due("hour(0, 7) down to 0", x.hour(0, 7), 0);
        x.set(BEGIN, 200);
        x.set(LOW, 150);
        due("hour(0, 3): LOW is HIGH", x.hour(0, 3), 10);
        due("hour(0, 6): LOW is HIGH", x.hour(0, 6), 200 + 3 - 10 - 150);
    }

    private static void whatIsSpilled() {
        sentence("What is above HIGH then is spilled.");
        LakePlant x = new LakePlant();
        int[][] rows = {{148, 0, 149}, {149, 0, 150}, {150, 1, 150}, {200, 51, 150}};
        for (int[] row : rows) {
            x.set(BEGIN, row[0]);
            due("hour(0, 6) from " + row[0], x.hour(0, 6), row[1]);
            due("hour(0, 7) from " + row[0], x.hour(0, 7), row[2]);
        }
        x.set(BEGIN, 167);
        x.plan(0, 20);
        due("hour(0, 6): nothing, as 20 are let down ahead of that", x.hour(0, 6), 0);
        x.set(HIGH, 200);
        x.set(BEGIN, 200);
        x.plan(0, -20);
        x.inflow(0, 99);
        due("hour(0, 6): as much as can be", x.hour(0, 6), 15 + 99 - 2);
        due("hour(0, 7)", x.hour(0, 7), 200);
    }

    private static void moneyOfWater() {
        sentence("what is let down, times the price, times YIELD hundredths (rounded down), less what is pumped, times the price");
        LakePlant x = new LakePlant();
        x.set(FLOW, 0);
        int[][] rows = {{3, 33, 90, 89}, {1, 1, 99, 0}, {1, 1, 100, 1}, {20, 1, 9, 1}, {20, 1, 10, 2}, {19, 7, 77, 102},
            {20, 999, 100, 19980}, {20, 999, 0, 0}, {0, 999, 100, 0}, {20, 0, 100, 0}, {-20, 999, 100, -19980}, {-1, 1, 0, -1}};
        for (int[] row : rows) {
            x.plan(0, row[0]);
            x.price(0, row[1]);
            x.set(YIELD, row[2]);
            due("hour(0, 8) with plan " + row[0] + ", price " + row[1] + " and YIELD " + row[2], x.hour(0, 8), 1000000 + row[3]);
        }
        x.set(FLOW, 3);
        x.plan(0, -7);
        x.price(0, 33);
        x.set(YIELD, 90);
        due("hour(0, 8): first rounded, then less what is pumped", x.hour(0, 8), 1000000 + 89 - 231);
    }

    private static void moneyOfContracts() {
        sentence("for each contract of the hour its bonus, if at least its units are let down, otherwise its fine less");
        LakePlant x = new LakePlant();
        x.price(6, 0);
        x.contract(6, 7, 500, 40);
        int[][] rows = {{6, -40}, {7, 500}, {8, 500}, {0, -40}, {-20, -40}};
        for (int[] row : rows) {
            x.plan(6, row[0]);
            due("hour(6, 8) with plan " + row[0], x.hour(6, 8), 1000000 + row[1]);
        }
        x.contract(6, 2, 9999, 1);
        x.contract(6, 3, 1, 9999);
        due("hour(6, 8) with three contracts, one of them met just so", x.hour(6, 8), 1000000 - 40 + 9999 - 9999);
        x.plan(6, 20);
        x.set(LOW, 80);
        due("hour(6, 8): only 9 can be let down", x.hour(6, 8), 1000000 + 500 + 9999 + 1);
        due("hour(5, 8): another hour's contracts are not its own", x.hour(5, 8), 1000180);
    }

    private static void moneyOfDryHours() {
        sentence("and DRY less, if less than FLOW is let down.");
        LakePlant x = new LakePlant();
        x.set(DRY, 999);
        x.set(BEGIN, 19);
        due("hour(0, 8): just FLOW", x.hour(0, 8), 1000180);
        x.set(BEGIN, 18);
        due("hour(0, 8): one less", x.hour(0, 8), 1000090 - 999);
        x.set(BEGIN, 0);
        due("hour(0, 8): nothing", x.hour(0, 8), 1000000 - 999);
        x.set(DRY, 0);
        due("hour(0, 8) with DRY 0", x.hour(0, 8), 1000000);
        x.set(DRY, 999);
        x.set(FLOW, 0);
        due("hour(0, 8) with FLOW 0", x.hour(0, 8), 1000000);
        x.plan(0, 20);
        due("hour(0, 8): cut, but not dry", x.hour(0, 8), 1000000);
    }

    private static void firstTrouble() {
        sentence("The trouble of an hour is the first of these that it has: 1: it is dry: less than FLOW is let down; "
            + "2: it is cut: less than wanted is let down; 3: it misses a contract; 4: something is spilled; 0: none.");
        LakePlant x = new LakePlant();
        x.set(BEGIN, 20);
        x.set(FLOW, 4);
        due("hour(0, 9): 3 of FLOW 4", x.hour(0, 9), 1);
        x.contract(0, 30, 0, 0);
        x.plan(0, 20);
        due("hour(0, 9): dry, cut and a contract missed", x.hour(0, 9), 1);
        x.set(BEGIN, 21);
        due("hour(0, 9): just FLOW, cut and a contract missed", x.hour(0, 9), 2);
        x.plan(0, 4);
        due("hour(0, 9): just what is wanted, a contract missed", x.hour(0, 9), 3);
        x.set(BEGIN, 200);
        due("hour(0, 9): a contract missed, and spilled", x.hour(0, 9), 3);
        due("hour(0, 6)", x.hour(0, 6) > 0 ? 1 : 0, 1);
        x.drop(0);
        due("hour(0, 9): spilled", x.hour(0, 9), 4);
        x.set(BEGIN, 151);
        due("hour(0, 9): just HIGH", x.hour(0, 9), 0);
        x.contract(0, 4, 0, 0);
        due("hour(0, 9): a contract met just so", x.hour(0, 9), 0);
        x.set(LOW, 150);
        x.plan(0, 5);
        due("hour(0, 9): cut, and the contract met", x.hour(0, 9), 2);
    }

    private static void causeOfTrouble() {
        sentence("The cause of one of the troubles 1 to 3 is the latest earlier hour in which something was spilled.");
        LakePlant x = new LakePlant();
        x.set(HIGH, 90);
        x.set(BEGIN, 90);
        x.contract(0, 30, 0, 0);
        due("hour(0, 10): hour 0 spills, but is not earlier", x.hour(0, 10), NONE);
        due("hour(0, 6)", x.hour(0, 6), 1);
        x.contract(1, 30, 0, 0);
        due("hour(1, 10): of a missed contract", x.hour(1, 10), 0);
        due("hour(1, 6): hour 1 spills, too", x.hour(1, 6), 1);
        due("hour(2, 10): no cause of what is spilled", x.hour(2, 10), NONE);
        x.contract(3, 30, 0, 0);
        due("hour(3, 10): the latest one", x.hour(3, 10), 2);
        x.plan(2, 20);
        due("hour(3, 10): hour 2 spills no more", x.hour(3, 10), 1);
        x.plan(23, 20);
        x.inflow(23, 0);
        x.set(LOW, 80);
        due("hour(23, 9): cut", x.hour(23, 9), 2);
        due("hour(23, 10): of a cut hour", x.hour(23, 10), 22);
        x.set(LOW, 90);
        due("hour(23, 9): dry", x.hour(23, 9), 1);
        due("hour(23, 10): of a dry hour", x.hour(23, 10), 22);
        x.plan(23, 0);
        x.inflow(23, 2);
        due("hour(23, 9): none", x.hour(23, 9), 0);
        due("hour(23, 10): without trouble", x.hour(23, 10), NONE);
        x.set(BEGIN, 80);
        x.set(LOW, 0);
        x.set(HIGH, 200);
        due("hour(3, 10): nothing is spilled at all", x.hour(3, 10), NONE);
    }

    // ---- the day: the best plan

    private static void endAtLeast() {
        sentence("The best plan is, of all plans by which the level in the end is at least END");
        LakePlant x = plainDay();
        x.set(END, 24);
        due("best(): one may be sold", x.best(), 10000020);
        x.set(END, 25);
        due("best(): none may be sold", x.best(), 10000000);
        x.set(END, 26);
        due("best(): one too few", x.best(), NONE);
        x.set(PUMP, 1);
        due("best(): it can be pumped", x.best(), 10000000 + 20 * 10 + 10 * 10);
        x.set(END, 150);
        due("best(): 25 and 22 times one", x.best(), NONE);
        x.set(END, 49);
        due("best(): 25 and 24 times one", x.best(), 10000000 - 10 - 20);
        x.set(END, 50);
        due("best(): one too few of them", x.best(), NONE);
        x.set(HIGH, 24);
        x.set(END, 24);
        due("best(): just HIGH, so as much is sold as is pumped behind it", x.best(), 10000000 + 7 * 10 + 8 * 20);
        x.set(END, 25);
        due("best(): END above HIGH", x.best(), NONE);
        x = new LakePlant();
        carriedOut(x, "i0-23=0");
        x.set(PUMP, 0);
        x.set(BEGIN, 128);
        due("best(): FLOW is let down in every hour, and END is just left", x.best(), 10000000 + 24 * 180);
        x.set(END, 81);
        due("best(): FLOW is one too much", x.best(), NONE);
        due("bestPlan(0): FLOW is one too much", x.bestPlan(0), NONE);
    }

    private static void mostMoney() {
        sentence("the one with the most money of the day");
        LakePlant x = plainDay();
        due("best()", x.best(), 10000300);
        x.set(BEGIN, 10);
        due("best(): only for the dearer hour", x.best(), 10000200);
        x.set(BEGIN, 11);
        due("best(): one for the other hour", x.best(), 10000210);
        x.contract(7, 2, 10, 0);
        due("best(): a bonus that is just as much as what a unit less brings", x.best(), 10000210);
        due("bestPlan(7): of two alike the lesser plan", x.bestPlan(7), 101);
        x.contract(7, 2, 1, 0);
        due("best(): one more, and it is worth it", x.best(), 10000211);
        due("bestPlan(7)", x.bestPlan(7), 102);
        x = plainDay();
        x.set(LOW, 10);
        due("best(): only what is above LOW", x.best(), 10000250);
        x.set(LOW, 24);
        due("best(): one above LOW", x.best(), 10000020);
        x.set(LOW, 25);
        due("best(): just LOW", x.best(), 10000000);
        x = plainDay();
        x.contract(0, 10, 0, 9999);
        x.contract(1, 10, 0, 9999);
        x.contract(2, 10, 0, 9999);
        due("best(): three fines of which one has to be paid", x.best(), 10000000 + 5 * 20 - 9999);
        x.set(END, 25);
        due("best(): all three have to be paid", x.best(), 10000000 - 3 * 9999);
        x.set(BEGIN, 0);
        x.set(END, 0);
        x.set(FLOW, 30);
        x.set(DRY, 999);
        due("best(): the least that can be: fines, and every hour dry", x.best(), 10000000 - 3 * 9999 - 24 * 999);
        x = new LakePlant();
        x.price(23, 400);
        due("best(): in the last hour down to just END", x.best(), 10000000 + 20 * 360 + 23 * 180 + 6 * 90);
        due("bestPlan(23)", x.bestPlan(23), 120);
        due("bestPlan(22)", x.bestPlan(22), 108);
    }

    private static void leastPlans() {
        sentence("of several the one with the least plan of the hour 0, of these of the hour 1, and so on.");
        LakePlant x = plainDay();
        carriedOut(x, "p0-23=5");
        x.set(BEGIN, 15);
        for (int hour = 0; hour < 24; hour++) {
            int plan = hour == 22 ? 5 : hour == 23 ? 10 : 0;
            due("bestPlan(" + hour + "): all hours pay alike", x.bestPlan(hour), 100 + plan);
        }
        x.set(PUMP, 4);
        carriedOut(x, "p0-23=0");
        for (int hour = 0; hour < 24; hour++) {
            due("bestPlan(" + hour + "): nothing pays or costs, so PUMP", x.bestPlan(hour), 96);
        }
        x.set(PUMP, 0);
        x.set(FLOW, 7);
        for (int hour = 0; hour < 24; hour++) {
            due("bestPlan(" + hour + "): FLOW is let down anyway, so 0", x.bestPlan(hour), 100);
        }
        x.set(FLOW, 0);
        x.set(BEGIN, 3);
        x.price(23, 1);
        due("bestPlan(23): 3 bring as much as any more", x.bestPlan(23), 103);
        x.set(BEGIN, 0);
        due("bestPlan(23): 0 brings as much as any more", x.bestPlan(23), 100);
        x.set(PUMP, 3);
        x.set(END, 5);
        x.set(YIELD, 90);
        carriedOut(x, "p0-23=6");
        int[] first = {97, 98, 100, 100};
        for (int hour = 0; hour < 4; hour++) {
            due("bestPlan(" + hour + "): 5 have to be pumped, as early as may be", x.bestPlan(hour), first[hour]);
        }
        x = plainDay();
        x.set(BEGIN, 10);
        x.inflow(3, 10);
        for (int hour = 0; hour < 24; hour++) {
            int plan = hour == 7 || hour == 15 ? 10 : 0;
            due("bestPlan(" + hour + "): what comes in hour 3 is kept", x.bestPlan(hour), 100 + plan);
        }
    }

    private static void leastPlansOfAFullLake() {
        sentence("of several the one with the least plan of the hour 0, of these of the hour 1, and so on.");
        LakePlant x = plainDay();
        x.set(PUMP, 4);
        x.set(HIGH, 25);
        due("bestPlan(0): pumped for nothing, though all is spilled", x.bestPlan(0), 96);
        due("best(): and both hours are sold out", x.best(), 10000300);
        x.set(LOSS, 100);
        due("bestPlan(1): pumped for nothing, though all is lost", x.bestPlan(1), 96);
        x.set(YIELD, 0);
        x.price(0, 1);
        due("bestPlan(0): not if it costs", x.bestPlan(0), 100);
        due("bestPlan(1): nothing sold brings anything, so PUMP", x.bestPlan(1), 96);
        due("bestPlan(7): not if it costs", x.bestPlan(7), 100);
        x = plainDay();
        x.set(PUMP, 30);
        x.set(HIGH, 200);
        x.set(BEGIN, 200);
        x.set(END, 200);
        carriedOut(x, "p0-22=0;p23=1;i0-23=99");
        due("best(): as much as there can ever be in the lake", x.best(), 10000010);
        for (int hour = 0; hour < 23; hour++) {
            due("bestPlan(" + hour + "): pumped, though 200 and 99 are there", x.bestPlan(hour), 70);
        }
        x.contract(5, 11, 0, 100);
        due("best(): less a fine that has to be paid", x.best(), 10000010 - 100);
        due("bestPlan(0)", x.bestPlan(0), 70);
        x.drop(0);
        x.price(23, 0);
        x.price(0, 1);
        due("best(): 10 of it sold, as 99 come", x.best(), 10000010);
        due("bestPlan(0)", x.bestPlan(0), 110);
    }

    public static void main(String[] args) {
        ranges();
        mostInAnHour();
        hundredths();
        lowNotAboveHigh();
        levelAheadOfTheDay();
        levelInTheEnd();
        hoursOfTheDay();
        pricesOfTheDay();
        inflowsOfTheDay();
        plansOfTheDay();
        plansFromPumpToFall();
        notLessThanAPlan();
        upTo8Contracts();
        whatIsPumped();
        whatIsLost();
        whatComes();
        whatIsWanted();
        notBelowLow();
        whatIsSpilled();
        moneyOfWater();
        moneyOfContracts();
        moneyOfDryHours();
        firstTrouble();
        causeOfTrouble();
        endAtLeast();
        mostMoney();
        leastPlans();
        leastPlansOfAFullLake();
        end();
    }
}
