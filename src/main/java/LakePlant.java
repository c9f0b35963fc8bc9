/**
 * A pump storage plant over a day of 24 hours. What the methods promise is told in ../shared/DOC.md; the numbers of
 * the promises stand ahead of them.
 *
 * All rows are made with the object and used again, so that no call makes anything.
 */
public final class LakePlant {
    public static final int NO_SUCH = -1, BAD_VALUE = -2, BAD_TEXT = -3, TOO_MANY = -4, NOT_POSSIBLE = -5, NONE = -6;
    public static final int PUMP = 0, FALL = 1, LOSS = 2, YIELD = 3, FLOW = 4, LOW = 5, HIGH = 6, BEGIN = 7, END = 8, DRY = 9;

    private static final int HOURS = 24;
    private static final int SETTINGS = 10;
    private static final int MOST_CONTRACTS = 8;
    private static final int MOST_LEVEL = 200;
    /** The most that an hour can pump or let down: the top of PUMP, of FALL and of FLOW. */
    private static final int MOST_UNITS = 30;
    private static final int MOST_PRICE = 999;
    private static final int MOST_INFLOW = 99;
    private static final int MOST_BONUS = 9999;
    private static final int MOST_SIGNS = 80;
    private static final int MOST_UNDO = 6;
    private static final int SLOTS = 2;

    /** What is added to an answer that could be below 0, so that it isn't taken for an error. */
    private static final int PLAN_SHIFT = 100, HOUR_SHIFT = 1000000, DAY_SHIFT = 10000000;

    private static final int NO_TROUBLE = 0, DRIED = 1, CUT = 2, MISSED = 3, SPILLED = 4;

    private final Lake lake = new Lake();
    private final Course course = new Course(lake);
    private final Search search = new Search(lake);
    private final Pad pad = new Pad();
    private final Reader reader = new Reader(pad);
    private final History history = new History();
    private final int[][] slots = new int[SLOTS][Lake.CELLS];
    private final boolean[] filledSlots = new boolean[SLOTS];

    /** Promise 1. */
    public LakePlant() {
    }

    // ---- changes

    /** Promise 2. */
    public int set(int setting, int value) {
        history.keepAside(lake);
        return history.recordUnlessError(lake.changeSetting(setting, value));
    }

    /** Promise 3. */
    public int price(int hour, int price) {
        history.keepAside(lake);
        return history.recordUnlessError(lake.changePrice(hour, price));
    }

    /** Promise 4. */
    public int inflow(int hour, int inflow) {
        history.keepAside(lake);
        return history.recordUnlessError(lake.changeInflow(hour, inflow));
    }

    /** Promise 5. */
    public int plan(int hour, int units) {
        history.keepAside(lake);
        return history.recordUnlessError(lake.changePlan(hour, units));
    }

    /** Promise 6. */
    public int contract(int hour, int units, int bonus, int fine) {
        history.keepAside(lake);
        return history.recordUnlessError(lake.addContract(hour, units, bonus, fine));
    }

    /** Promise 7. */
    public int drop(int contract) {
        history.keepAside(lake);
        return history.recordUnlessError(lake.removeContract(contract));
    }

    /** Promise 8. */
    public int adopt() {
        history.keepAside(lake);
        return history.recordUnlessError(adoptBest());
    }

    // ---- what there is

    /** Promise 9. */
    public int hour(int hour, int what) {
        if (!isHour(hour)) {
            return NO_SUCH;
        }
        course.follow();
        switch (what) {
            case 0: return lake.priceOf(hour);
            case 1: return lake.inflowOf(hour);
            case 2: return lake.planOf(hour) + PLAN_SHIFT;
            case 3: return course.letDown[hour];
            case 4: return course.pumped[hour];
            case 5: return course.lost[hour];
            case 6: return course.spilled[hour];
            case 7: return course.level[hour];
            case 8: return course.money[hour] + HOUR_SHIFT;
            case 9: return course.trouble[hour];
            case 10: return course.cause[hour];
            default: return BAD_VALUE;
        }
    }

    /** Promise 10. */
    public int ofContract(int contract, int what) {
        if (!lake.isContract(contract)) {
            return NO_SUCH;
        }
        if (what < 0 || what > Lake.PARTS) {
            return BAD_VALUE;
        }
        if (what < Lake.PARTS) {
            return lake.contractPart(contract, what);
        }
        course.follow();
        return course.isMet(contract) ? 1 : 0;
    }

    /** Promise 11. */
    public int day(int what) {
        course.follow();
        switch (what) {
            case 0: return moneyOfDay();
            case 1: return sumOf(course.letDown);
            case 2: return sumOf(course.pumped);
            case 3: return sumOf(course.lost);
            case 4: return sumOf(course.spilled);
            case 5: return course.levelInTheEnd();
            case 6: return course.hoursWith(DRIED);
            // What is dry is cut, too, for FLOW is always wanted.
            case 7: return course.hoursWith(DRIED) + course.hoursWith(CUT);
            case 8: return course.missedContracts();
            case 9: return course.levelInTheEnd() >= lake.settingOf(END) ? 1 : 0;
            case 10: return lake.allInflows();
            default: return BAD_VALUE;
        }
    }

    /** Promise 12. */
    public int troubled(int trouble) {
        if (trouble < DRIED || trouble > SPILLED) {
            return BAD_VALUE;
        }
        course.follow();
        return course.setOf(trouble);
    }

    /** Promise 13. */
    public int count(int what) {
        if (what >= 0 && what < SETTINGS) {
            return lake.settingOf(what);
        }
        switch (what) {
            case 10: return lake.contracts();
            case 11: return pad.length;
            case 12: return history.length;
            default: return BAD_VALUE;
        }
    }

    // ---- the best plan; nothing changes

    /** Promise 14. */
    public int best() {
        search.solve();
        int most = search.mostFrom(0, lake.settingOf(BEGIN));
        return most == Search.NO_PLAN ? NONE : most + DAY_SHIFT;
    }

    /** Promise 15. */
    public int bestPlan(int hour) {
        if (!isHour(hour)) {
            return NO_SUCH;
        }
        search.solve();
        return search.found ? search.plan[hour] + PLAN_SHIFT : NONE;
    }

    /** Promise 16. */
    public int worth(int units) {
        if (units < -MOST_LEVEL || units > MOST_LEVEL) {
            return BAD_VALUE;
        }
        int begin = lake.settingOf(BEGIN);
        if (begin + units < 0 || begin + units > MOST_LEVEL) {
            return BAD_VALUE;
        }
        search.solve();
        int without = search.mostFrom(0, begin);
        int with = search.mostFrom(0, begin + units);
        if (without == Search.NO_PLAN || with == Search.NO_PLAN) {
            return NONE;
        }
        return with - without + DAY_SHIFT;
    }

    /** Promise 17. */
    public int highest() {
        return lake.highestInTheEnd();
    }

    // ---- texts

    /** Promise 18. */
    public int put(long characters) {
        return pad.append(characters);
    }

    /** Promise 19. */
    public int wipe() {
        return pad.empty();
    }

    /** Promise 20. */
    public int fault() {
        return reader.findFault();
    }

    /** Promise 21. */
    public int carryOut() {
        history.keepAside(lake);
        if (reader.findFault() != NONE) {
            return BAD_TEXT;
        }
        int done = 0;
        reader.toTheBegin();
        while (done < MOST_SIGNS && reader.readOrder() && obeyOrder() >= 0) {
            done++;
            reader.readSign(';');
        }
        pad.empty();
        return history.recordUnlessError(done);
    }

    // ---- undo, saving

    /** Promise 22. */
    public int undo() {
        return history.takeBack(lake);
    }

    /** Promise 23. */
    public int save(int slot) {
        if (slot < 0 || slot >= SLOTS) {
            return BAD_VALUE;
        }
        lake.copyTo(slots[slot]);
        filledSlots[slot] = true;
        course.follow();
        return moneyOfDay();
    }

    /** Promise 24. */
    public int restore(int slot) {
        if (slot < 0 || slot >= SLOTS) {
            return BAD_VALUE;
        }
        if (!filledSlots[slot]) {
            return NOT_POSSIBLE;
        }
        history.keepAside(lake);
        lake.copyFrom(slots[slot]);
        course.follow();
        return history.recordUnlessError(moneyOfDay());
    }

    // ---- what several of them need

    private int adoptBest() {
        search.solve();
        if (!search.found) {
            return NOT_POSSIBLE;
        }
        int others = 0;
        for (int hour = 0; hour < HOURS; hour++) {
            if (lake.planOf(hour) != search.plan[hour]) {
                others++;
                lake.changePlan(hour, search.plan[hour]);
            }
        }
        return others;
    }

    /** Carries the order out that was read last, and returns its answer. */
    private int obeyOrder() {
        if (reader.kind == 'a') {
            return adoptBest();
        }
        if (reader.kind == 'c') {
            return lake.addContract(reader.first, reader.units, reader.bonus, reader.fine);
        }
        if (reader.last < reader.first) {
            return BAD_VALUE;
        }
        int answer = NO_SUCH;
        for (int hour = reader.first; hour <= reader.last; hour++) {
            answer = obeyInHour(hour);
            if (answer < 0) {
                return answer;
            }
        }
        return answer;
    }

    private int obeyInHour(int hour) {
        if (reader.kind == 'p') {
            return lake.changePrice(hour, reader.value);
        }
        if (reader.kind == 'i') {
            return lake.changeInflow(hour, reader.value);
        }
        return lake.changePlan(hour, reader.value);
    }

    /** The money of the day by the course that was followed last. */
    private int moneyOfDay() {
        return sumOf(course.money) + DAY_SHIFT;
    }

    private static boolean isHour(int hour) {
        return hour >= 0 && hour < HOURS;
    }

    private static int sumOf(int[] row) {
        int sum = 0;
        for (int i = 0; i < row.length; i++) {
            sum += row[i];
        }
        return sum;
    }

    private static void copyRow(int[] from, int[] to) {
        System.arraycopy(from, 0, to, 0, Math.min(from.length, to.length));
    }

    /**
     * All that changes change and that undo and saved states bring back, and the rules of an hour. It stands in one
     * row of numbers, so that a state is kept by copying the row.
     */
    private static final class Lake {
        private static final int[] MOST_VALUES = {30, 30, 100, 100, 30, 200, 200, 200, 200, 999};
        private static final int[] FIRST_VALUES = {20, 20, 25, 90, 2, 20, 150, 80, 80, 50};
        private static final int FIRST_PRICE = 100, FIRST_INFLOW = 3;

        /** The parts of a contract, in the order of its answers. */
        private static final int ITS_HOUR = 0, ITS_UNITS = 1, ITS_BONUS = 2, ITS_FINE = 3;
        private static final int PARTS = 4;

        /** Where the parts of the row begin; the settings begin at 0. */
        private static final int PRICES = SETTINGS;
        private static final int INFLOWS = PRICES + HOURS;
        private static final int PLANS = INFLOWS + HOURS;
        private static final int CONTRACTS = PLANS + HOURS;
        private static final int CONTRACT_COUNT = CONTRACTS + MOST_CONTRACTS * PARTS;
        private static final int CELLS = CONTRACT_COUNT + 1;

        private final int[] cells = new int[CELLS];
        /** Another number whenever something is changed on which the best plan depends. */
        private int version = 0;

        private Lake() {
            copyRow(FIRST_VALUES, cells);
            for (int hour = 0; hour < HOURS; hour++) {
                cells[PRICES + hour] = FIRST_PRICE;
                cells[INFLOWS + hour] = FIRST_INFLOW;
            }
        }

        private void copyTo(int[] row) {
            copyRow(cells, row);
        }

        private void copyFrom(int[] row) {
            copyRow(row, cells);
            version++;
        }

        private int settingOf(int setting) {
            return setting >= 0 && setting < SETTINGS ? cells[setting] : 0;
        }

        private int priceOf(int hour) {
            return hour >= 0 && hour < HOURS ? cells[PRICES + hour] : 0;
        }

        private int inflowOf(int hour) {
            return hour >= 0 && hour < HOURS ? cells[INFLOWS + hour] : 0;
        }

        private int planOf(int hour) {
            return hour >= 0 && hour < HOURS ? cells[PLANS + hour] : 0;
        }

        private int contracts() {
            return cells[CONTRACT_COUNT];
        }

        private boolean isContract(int number) {
            return number >= 0 && number < contracts();
        }

        private int contractPart(int number, int part) {
            boolean there = number >= 0 && number < MOST_CONTRACTS && part >= 0 && part < PARTS;
            return there ? cells[CONTRACTS + number * PARTS + part] : 0;
        }

        private int allInflows() {
            int sum = 0;
            for (int hour = 0; hour < HOURS; hour++) {
                sum += inflowOf(hour);
            }
            return sum;
        }

        // Changes: each returns what its method promises, and changes nothing if that is an error.

        private int changeSetting(int setting, int value) {
            if (setting < 0 || setting >= SETTINGS || value < 0 || value > MOST_VALUES[setting]) {
                return BAD_VALUE;
            }
            if (!fitsTheRest(setting, value)) {
                return NOT_POSSIBLE;
            }
            version++;
            return replaced(setting, value);
        }

        private boolean fitsTheRest(int setting, int value) {
            switch (setting) {
                case LOW: return value <= cells[HIGH];
                case HIGH: return value >= cells[LOW];
                case PUMP: return plansAreFrom(-value, cells[FALL]);
                case FALL: return plansAreFrom(-cells[PUMP], value);
                default: return true;
            }
        }

        private boolean plansAreFrom(int least, int most) {
            for (int hour = 0; hour < HOURS; hour++) {
                if (planOf(hour) < least || planOf(hour) > most) {
                    return false;
                }
            }
            return true;
        }

        private int changePrice(int hour, int price) {
            if (!isHour(hour)) {
                return NO_SUCH;
            }
            if (price < 0 || price > MOST_PRICE) {
                return BAD_VALUE;
            }
            version++;
            return replaced(PRICES + hour, price);
        }

        private int changeInflow(int hour, int inflow) {
            if (!isHour(hour)) {
                return NO_SUCH;
            }
            if (inflow < 0 || inflow > MOST_INFLOW) {
                return BAD_VALUE;
            }
            version++;
            return replaced(INFLOWS + hour, inflow);
        }

        /** The version stays: the best plan is the same, whatever plan there is. */
        private int changePlan(int hour, int units) {
            if (!isHour(hour)) {
                return NO_SUCH;
            }
            if (units < -cells[PUMP] || units > cells[FALL]) {
                return BAD_VALUE;
            }
            return replaced(PLANS + hour, units) + PLAN_SHIFT;
        }

        private int replaced(int cell, int value) {
            if (cell < 0 || cell >= CELLS) {
                return BAD_VALUE;
            }
            int previous = cells[cell];
            cells[cell] = value;
            return previous;
        }

        private int addContract(int hour, int units, int bonus, int fine) {
            if (!isHour(hour)) {
                return NO_SUCH;
            }
            if (units < 1 || units > MOST_UNITS || bonus < 0 || bonus > MOST_BONUS || fine < 0 || fine > MOST_BONUS) {
                return BAD_VALUE;
            }
            int number = contracts();
            if (number >= MOST_CONTRACTS) {
                return TOO_MANY;
            }
            int start = CONTRACTS + number * PARTS;
            replaced(start + ITS_HOUR, hour);
            replaced(start + ITS_UNITS, units);
            replaced(start + ITS_BONUS, bonus);
            replaced(start + ITS_FINE, fine);
            cells[CONTRACT_COUNT] = number + 1;
            version++;
            return number;
        }

        private int removeContract(int number) {
            if (!isContract(number)) {
                return NO_SUCH;
            }
            for (int cell = CONTRACTS + number * PARTS; cell + PARTS < CONTRACT_COUNT; cell++) {
                cells[cell] = cells[cell + PARTS];
            }
            cells[CONTRACT_COUNT]--;
            version++;
            return contracts();
        }

        // The rules of an hour.

        private int lossOf(int pumped) {
            return (pumped * cells[LOSS] + 99) / 100;
        }

        /** The level when what is pumped and what flows in have come, and nothing has left yet. */
        private int filledLevel(int hour, int level, int pumped) {
            return level + pumped - lossOf(pumped) + inflowOf(hour);
        }

        private int wantedBy(int units) {
            return Math.max(cells[FLOW], units);
        }

        private int letDownOf(int filled, int wanted) {
            return Math.max(0, Math.min(wanted, filled - cells[LOW]));
        }

        private int spilledOf(int level) {
            return Math.max(0, level - cells[HIGH]);
        }

        /** The level behind an hour in which the plan is units. */
        private int levelBehind(int hour, int level, int units) {
            int filled = filledLevel(hour, level, pumpedBy(units));
            int rest = filled - letDownOf(filled, wantedBy(units));
            return rest - spilledOf(rest);
        }

        /** The money of an hour, but for what is paid for pumping. */
        private int earnedBy(int hour, int letDown) {
            int money = letDown * priceOf(hour) * cells[YIELD] / 100;
            for (int number = 0; number < contracts(); number++) {
                if (contractPart(number, ITS_HOUR) == hour) {
                    boolean met = letDown >= contractPart(number, ITS_UNITS);
                    money += met ? contractPart(number, ITS_BONUS) : -contractPart(number, ITS_FINE);
                }
            }
            return letDown < cells[FLOW] ? money - cells[DRY] : money;
        }

        private int missedIn(int hour, int letDown) {
            int missed = 0;
            for (int number = 0; number < contracts(); number++) {
                if (contractPart(number, ITS_HOUR) == hour && letDown < contractPart(number, ITS_UNITS)) {
                    missed++;
                }
            }
            return missed;
        }

        /**
         * Whoever pumps all he can has never less water than another: what comes in doesn't get less by pumping more,
         * no more than FLOW is let down, and from a higher level an hour never leads to a lower one.
         */
        private int highestInTheEnd() {
            int level = cells[BEGIN];
            for (int hour = 0; hour < HOURS; hour++) {
                level = levelBehind(hour, level, -cells[PUMP]);
            }
            return level;
        }

        private static int pumpedBy(int units) {
            return Math.max(0, -units);
        }
    }

    /** What becomes of the day by its plan, hour by hour. */
    private static final class Course {
        private final Lake lake;
        private final int[] letDown = new int[HOURS];
        private final int[] pumped = new int[HOURS];
        private final int[] lost = new int[HOURS];
        private final int[] spilled = new int[HOURS];
        private final int[] level = new int[HOURS];
        private final int[] money = new int[HOURS];
        private final int[] trouble = new int[HOURS];
        private final int[] cause = new int[HOURS];

        private Course(Lake lake) {
            this.lake = lake;
        }

        private void follow() {
            int reached = lake.settingOf(BEGIN);
            int latestSpill = NONE;
            for (int hour = 0; hour < HOURS; hour++) {
                reached = followHour(hour, reached);
                boolean hasCause = trouble[hour] == DRIED || trouble[hour] == CUT || trouble[hour] == MISSED;
                cause[hour] = hasCause ? latestSpill : NONE;
                if (spilled[hour] > 0) {
                    latestSpill = hour;
                }
            }
        }

        /** Fills the rows of an hour, and returns the level behind it. */
        private int followHour(int hour, int before) {
            if (!isHour(hour)) {
                return before;
            }
            int units = lake.planOf(hour);
            int up = Lake.pumpedBy(units);
            int filled = lake.filledLevel(hour, before, up);
            int wanted = lake.wantedBy(units);
            int down = lake.letDownOf(filled, wanted);
            pumped[hour] = up;
            lost[hour] = lake.lossOf(up);
            letDown[hour] = down;
            spilled[hour] = lake.spilledOf(filled - down);
            level[hour] = filled - down - spilled[hour];
            money[hour] = lake.earnedBy(hour, down) - up * lake.priceOf(hour);
            trouble[hour] = troubleOf(hour, down, wanted, spilled[hour]);
            return level[hour];
        }

        private int troubleOf(int hour, int down, int wanted, int over) {
            if (down < lake.settingOf(FLOW)) {
                return DRIED;
            }
            if (down < wanted) {
                return CUT;
            }
            if (lake.missedIn(hour, down) > 0) {
                return MISSED;
            }
            return over > 0 ? SPILLED : NO_TROUBLE;
        }

        private int levelInTheEnd() {
            return level[HOURS - 1];
        }

        private int hoursWith(int kind) {
            return Integer.bitCount(setOf(kind));
        }

        private int setOf(int kind) {
            int set = 0;
            for (int hour = 0; hour < HOURS; hour++) {
                if (trouble[hour] == kind) {
                    set |= 1 << hour;
                }
            }
            return set;
        }

        private int missedContracts() {
            int missed = 0;
            for (int hour = 0; hour < HOURS; hour++) {
                missed += lake.missedIn(hour, letDown[hour]);
            }
            return missed;
        }

        private boolean isMet(int contract) {
            int hour = lake.contractPart(contract, Lake.ITS_HOUR);
            return isHour(hour) && letDown[hour] >= lake.contractPart(contract, Lake.ITS_UNITS);
        }
    }

    /** The best plan: from the last hour to the first one, the most money that each level can still bring. */
    private static final class Search {
        /** Less than any money: no plan leads to END. */
        private static final int NO_PLAN = -1000000000;
        /** The most that can be in the lake when nothing has left it yet. */
        private static final int MOST_FILLED = MOST_LEVEL + MOST_INFLOW + MOST_UNITS;

        private final Lake lake;
        /** By hour and level ahead of it: the most money from there on; the row behind the last hour is for the end. */
        private final int[][] most = new int[HOURS + 1][MOST_LEVEL + 1];
        /** By what is pumped: what of it comes into the lake. */
        private final int[] gained = new int[MOST_UNITS + 1];
        private final int[] plan = new int[HOURS];
        private boolean found = false;
        private int solvedVersion = -1;

        /** Of the hour that is looked at, by what is let down: its money, but for what is paid for pumping. */
        private final int[] earned = new int[MOST_UNITS + 1];
        /** By what is in the lake when the water has been let down: the most money of the hours behind. */
        private final int[] ahead = new int[MOST_FILLED + 1];
        /** By what is in the lake before that: the most money, but for pumping, if no more than FLOW is wanted. */
        private final int[] idle = new int[MOST_FILLED + 1];

        private Search(Lake lake) {
            this.lake = lake;
        }

        private void solve() {
            if (solvedVersion == lake.version) {
                return;
            }
            solvedVersion = lake.version;
            for (int level = 0; level <= MOST_LEVEL; level++) {
                most[HOURS][level] = level >= lake.settingOf(END) ? 0 : NO_PLAN;
            }
            for (int pumped = 0; pumped <= MOST_UNITS; pumped++) {
                gained[pumped] = pumped - lake.lossOf(pumped);
            }
            for (int hour = HOURS - 1; hour >= 0; hour--) {
                lookAt(hour);
                solveHour(hour);
            }
            choosePlan();
        }

        private int mostFrom(int hour, int level) {
            if (hour < 0 || hour > HOURS || level < 0 || level > MOST_LEVEL) {
                return NO_PLAN;
            }
            return most[hour][level];
        }

        private void lookAt(int hour) {
            for (int down = 0; down <= MOST_UNITS; down++) {
                earned[down] = lake.earnedBy(hour, down);
            }
            for (int rest = 0; rest <= MOST_FILLED; rest++) {
                ahead[rest] = mostFrom(hour + 1, rest - lake.spilledOf(rest));
            }
            int flow = lake.settingOf(FLOW);
            for (int filled = 0; filled <= MOST_FILLED; filled++) {
                idle[filled] = mostWith(filled, lake.letDownOf(filled, flow));
            }
        }

        /** The most from the hour that is looked at, but for pumping, if down of what is filled is let down. */
        private int mostWith(int filled, int down) {
            int rest = filled - down;
            if (down < 0 || down > MOST_UNITS || rest < 0 || rest > MOST_FILLED || ahead[rest] == NO_PLAN) {
                return NO_PLAN;
            }
            return ahead[rest] + earned[down];
        }

        private void solveHour(int hour) {
            if (!isHour(hour)) {
                return;
            }
            // Only ahead of the day can there be more than HIGH.
            int top = hour == 0 ? MOST_LEVEL : Math.min(lake.settingOf(HIGH), MOST_LEVEL);
            int price = lake.priceOf(hour);
            for (int level = 0; level <= top; level++) {
                int filled = level + lake.inflowOf(hour);
                most[hour][level] = Math.max(mostByPumping(filled, price), mostByLettingDown(filled));
            }
        }

        /** The most with from none to PUMP pumped, which leaves FLOW as what is wanted. */
        private int mostByPumping(int filled, int price) {
            int top = Math.min(lake.settingOf(PUMP), MOST_UNITS);
            int best = NO_PLAN;
            for (int pumped = 0; pumped <= top; pumped++) {
                int more = filled + gained[pumped];
                if (more >= 0 && more <= MOST_FILLED && idle[more] != NO_PLAN) {
                    best = Math.max(best, idle[more] - pumped * price);
                }
            }
            return best;
        }

        /** The most with more than FLOW let down. A plan above what the lake gives is like one of just that much. */
        private int mostByLettingDown(int filled) {
            int top = Math.min(lake.settingOf(FALL), filled - lake.settingOf(LOW));
            int flow = lake.settingOf(FLOW);
            int best = NO_PLAN;
            for (int down = 1; down <= top && down <= MOST_UNITS; down++) {
                int rest = filled - down;
                if (down > flow && rest >= 0 && rest <= MOST_FILLED && ahead[rest] != NO_PLAN) {
                    best = Math.max(best, ahead[rest] + earned[down]);
                }
            }
            return best;
        }

        private void choosePlan() {
            int level = lake.settingOf(BEGIN);
            found = mostFrom(0, level) != NO_PLAN;
            if (!found) {
                return;
            }
            for (int hour = 0; hour < HOURS; hour++) {
                lookAt(hour);
                plan[hour] = leastWithTheMost(hour, level);
                level = lake.levelBehind(hour, level, plan[hour]);
            }
        }

        private int leastWithTheMost(int hour, int level) {
            int goal = mostFrom(hour, level);
            for (int units = -lake.settingOf(PUMP); units < lake.settingOf(FALL); units++) {
                int pumped = Lake.pumpedBy(units);
                int filled = lake.filledLevel(hour, level, pumped);
                int money = mostWith(filled, lake.letDownOf(filled, lake.wantedBy(units)));
                if (money != NO_PLAN && money - pumped * lake.priceOf(hour) == goal) {
                    return units;
                }
            }
            return lake.settingOf(FALL);
        }
    }

    /** The text of orders. */
    private static final class Pad {
        private static final int SIGNS_AT_ONCE = 8;

        private final char[] signs = new char[MOST_SIGNS];
        private int length = 0;

        private int append(long characters) {
            int more = 0;
            long above = characters;
            while (more < SIGNS_AT_ONCE && (above & 255) != 0) {
                if ((above & 255) < 33 || (above & 255) > 126) {
                    return BAD_VALUE;
                }
                more++;
                above >>>= 8;
            }
            if (more == 0 || above != 0) {
                return BAD_VALUE;
            }
            if (length + more > MOST_SIGNS) {
                return TOO_MANY;
            }
            for (int i = more - 1; i >= 0; i--) {
                signs[length] = (char) ((characters >>> (8 * i)) & 255);
                length++;
            }
            return length;
        }

        private int empty() {
            int previous = length;
            length = 0;
            return previous;
        }

        /** The character at an index, and 0 where there is none. */
        private char signAt(int index) {
            return index >= 0 && index < length && index < MOST_SIGNS ? signs[index] : 0;
        }
    }

    /** Reads the orders of the pad from left to right, and stops at the first character that can't stand there. */
    private static final class Reader {
        private static final int MOST_DIGITS = 3;

        private final Pad pad;
        private int at = 0;
        /** The number that was read last. */
        private int number = 0;
        /** The order that was read last: its letter, its hours from first to last, and the value for them. */
        private char kind = 0;
        private int first = 0;
        private int last = 0;
        private int value = 0;
        /** And of a contract, which has its hour in first. */
        private int units = 0;
        private int bonus = 0;
        private int fine = 0;

        private Reader(Pad pad) {
            this.pad = pad;
        }

        private void toTheBegin() {
            at = 0;
        }

        private int findFault() {
            toTheBegin();
            for (int orders = 0; orders < MOST_SIGNS; orders++) {
                if (!readOrder()) {
                    return at;
                }
                if (at >= pad.length) {
                    return NONE;
                }
                if (!readSign(';')) {
                    return at;
                }
            }
            return at;
        }

        private boolean readOrder() {
            kind = pad.signAt(at);
            if (kind == 'a') {
                return readSign('a');
            }
            if (kind == 'c') {
                return readSign('c') && readContract();
            }
            if (kind == 'p' || kind == 'i' || kind == 'u') {
                return readSign(kind) && readHours() && readSign('=') && readValue();
            }
            return false;
        }

        private boolean readHours() {
            if (!readNumber()) {
                return false;
            }
            first = number;
            if (readSign('-') && !readNumber()) {
                return false;
            }
            last = number;
            return true;
        }

        private boolean readValue() {
            boolean below = kind == 'u' && readSign('-');
            if (!readNumber()) {
                return false;
            }
            value = below ? -number : number;
            return true;
        }

        private boolean readContract() {
            if (!readNumber()) {
                return false;
            }
            first = number;
            if (!readSign(':') || !readNumber()) {
                return false;
            }
            units = number;
            if (!readSign('+') || !readNumber()) {
                return false;
            }
            bonus = number;
            if (!readSign('-') || !readNumber()) {
                return false;
            }
            fine = number;
            return true;
        }

        private boolean readSign(char sign) {
            if (pad.signAt(at) != sign) {
                return false;
            }
            at++;
            return true;
        }

        /** A digit behind a leading 0 or behind a third digit is left: nothing that may follow a number begins so. */
        private boolean readNumber() {
            if (!isDigit(pad.signAt(at))) {
                return false;
            }
            number = 0;
            for (int digits = 0; digits < MOST_DIGITS && isDigit(pad.signAt(at)); digits++) {
                if (digits > 0 && number == 0) {
                    return true;
                }
                number = number * 10 + (pad.signAt(at) - '0');
                at++;
            }
            return true;
        }

        private static boolean isDigit(char sign) {
            return sign >= '0' && sign <= '9';
        }
    }

    /** The states that can be undone: a ring with one place more, in which the state before a change is kept aside. */
    private static final class History {
        private static final int PLACES = MOST_UNDO + 1;

        private final int[][] states = new int[PLACES][Lake.CELLS];
        private int aside = 0;
        private int length = 0;

        private void keepAside(Lake lake) {
            if (aside >= 0 && aside < PLACES) {
                lake.copyTo(states[aside]);
            }
        }

        /** Takes the answer of a change, and records the state that was kept aside unless it is an error. */
        private int recordUnlessError(int answer) {
            if (answer >= 0) {
                aside = (aside + 1) % PLACES;
                length = Math.min(length + 1, MOST_UNDO);
            }
            return answer;
        }

        private int takeBack(Lake lake) {
            if (length == 0) {
                return NOT_POSSIBLE;
            }
            aside = (aside + PLACES - 1) % PLACES;
            length--;
            if (aside >= 0 && aside < PLACES) {
                lake.copyFrom(states[aside]);
            }
            return length;
        }
    }
}
