import java.util.ArrayDeque;
import java.util.ArrayList;
import java.util.Arrays;
import java.util.Deque;
import java.util.List;
import java.util.Random;
import java.util.regex.Matcher;
import java.util.regex.Pattern;

/**
 * Long runs of calls, drawn from fixed seeds, on LakePlant and on a model of the document that is written another way:
 * states are copied whole, a plan is judged by going through the day, and a fault is found by what could still follow.
 * Every answer of a run has to be the model's, and at times so has everything that can be asked.
 */
public final class ModelTest {
    private static final int NO_SUCH = -1, BAD_VALUE = -2, BAD_TEXT = -3, TOO_MANY = -4, NOT_POSSIBLE = -5, NONE = -6;
    private static final int PUMP = 0, FALL = 1, LOSS = 2, YIELD = 3, FLOW = 4, LOW = 5, HIGH = 6, BEGIN = 7, END = 8, DRY = 9;
    private static final int[] TOP = {30, 30, 100, 100, 30, 200, 200, 200, 200, 999};
    private static int wrong = 0;
    private static int compared = 0;

    /** What undo and saved states bring back. */
    private static final class State {
        int[] settings = {20, 20, 25, 90, 2, 20, 150, 80, 80, 50};
        int[] prices = new int[24], inflows = new int[24], plans = new int[24];
        List<int[]> contracts = new ArrayList<>();

        State() {
            Arrays.fill(prices, 100);
            Arrays.fill(inflows, 3);
        }

        State copy() {
            State other = new State();
            other.settings = settings.clone();
            other.prices = prices.clone();
            other.inflows = inflows.clone();
            other.plans = plans.clone();
            other.contracts = new ArrayList<>(contracts);
            return other;
        }
    }

    /** What happens in one hour. */
    private static final class Happened {
        int pumped, lost, down, spilled, level, money, trouble;
        boolean dry, cut;
    }

    private static Happened happens(State s, int hour, int level, int plan) {
        Happened x = new Happened();
        x.pumped = plan < 0 ? -plan : 0;
        x.lost = (int) Math.ceil(x.pumped * s.settings[LOSS] / 100.0 - 1e-9);
        int water = level + x.pumped - x.lost + s.inflows[hour];
        int wanted = plan > s.settings[FLOW] ? plan : s.settings[FLOW];
        while (x.down < wanted && water > s.settings[LOW]) {
            x.down++;
            water--;
        }
        while (water > s.settings[HIGH]) {
            x.spilled++;
            water--;
        }
        x.level = water;
        x.dry = x.down < s.settings[FLOW];
        x.cut = x.down < wanted;
        x.money = (int) Math.floor(x.down * s.prices[hour] * s.settings[YIELD] / 100.0 + 1e-9) - x.pumped * s.prices[hour];
        boolean missed = false;
        for (int[] c : s.contracts) {
            if (c[0] == hour) {
                x.money += x.down >= c[1] ? c[2] : -c[3];
                missed |= x.down < c[1];
            }
        }
        x.money -= x.dry ? s.settings[DRY] : 0;
        x.trouble = x.dry ? 1 : x.cut ? 2 : missed ? 3 : x.spilled > 0 ? 4 : 0;
        return x;
    }

    private static Happened[] happens(State s) {
        Happened[] day = new Happened[24];
        int level = s.settings[BEGIN];
        for (int h = 0; h < 24; h++) {
            day[h] = happens(s, h, level, s.plans[h]);
            level = day[h].level;
        }
        return day;
    }

    /** The most money from an hour and a level on, and the first plan that brings it; asked for no more than needed. */
    private static final class Best {
        final State s;
        final Integer[][] most = new Integer[24][201];
        final boolean[][] known = new boolean[24][201];
        final int[][] plan = new int[24][201];

        Best(State s) {
            this.s = s;
        }

        Integer from(int hour, int level) {
            if (hour == 24) {
                return level >= s.settings[END] ? 0 : null;
            }
            if (!known[hour][level]) {
                known[hour][level] = true;
                for (int p = -s.settings[PUMP]; p <= s.settings[FALL]; p++) {
                    Happened x = happens(s, hour, level, p);
                    Integer rest = from(hour + 1, x.level);
                    if (rest != null && (most[hour][level] == null || rest + x.money > most[hour][level])) {
                        most[hour][level] = rest + x.money;
                        plan[hour][level] = p;
                    }
                }
            }
            return most[hour][level];
        }

        int[] plans() {
            if (from(0, s.settings[BEGIN]) == null) {
                return null;
            }
            int[] plans = new int[24];
            int level = s.settings[BEGIN];
            for (int h = 0; h < 24; h++) {
                from(h, level);
                plans[h] = plan[h][level];
                level = happens(s, h, level, plans[h]).level;
            }
            return plans;
        }
    }

    private static final class Model {
        State s = new State();
        String pad = "";
        Deque<State> history = new ArrayDeque<>();
        State[] slots = new State[2];

        private int changed(State before, int answer) {
            if (answer >= 0) {
                history.addLast(before);
                if (history.size() > 6) {
                    history.removeFirst();
                }
            }
            return answer;
        }

        int set(int setting, int value) {
            if (setting < 0 || setting > 9 || value < 0 || value > TOP[setting]) {
                return BAD_VALUE;
            }
            State before = s.copy();
            int previous = s.settings[setting];
            s.settings[setting] = value;
            boolean possible = s.settings[LOW] <= s.settings[HIGH];
            for (int p : s.plans) {
                possible &= p >= -s.settings[PUMP] && p <= s.settings[FALL];
            }
            if (!possible) {
                s = before;
                return NOT_POSSIBLE;
            }
            return changed(before, previous);
        }

        int price(int hour, int v) {
            State before = s.copy();
            return changed(before, setPrice(hour, v));
        }

        int inflow(int hour, int v) {
            State before = s.copy();
            return changed(before, setInflow(hour, v));
        }

        int plan(int hour, int v) {
            State before = s.copy();
            return changed(before, setPlan(hour, v));
        }

        int contract(int hour, int units, int bonus, int fine) {
            State before = s.copy();
            return changed(before, addContract(hour, units, bonus, fine));
        }

        int adopt() {
            State before = s.copy();
            return changed(before, takeBest());
        }

        private int setPrice(int hour, int v) {
            if (hour < 0 || hour > 23) {
                return NO_SUCH;
            }
            if (v < 0 || v > 999) {
                return BAD_VALUE;
            }
            int previous = s.prices[hour];
            s.prices[hour] = v;
            return previous;
        }

        private int setInflow(int hour, int v) {
            if (hour < 0 || hour > 23) {
                return NO_SUCH;
            }
            if (v < 0 || v > 99) {
                return BAD_VALUE;
            }
            int previous = s.inflows[hour];
            s.inflows[hour] = v;
            return previous;
        }

        private int setPlan(int hour, int v) {
            if (hour < 0 || hour > 23) {
                return NO_SUCH;
            }
            if (v < 0 ? -(long) v > s.settings[PUMP] : v > s.settings[FALL]) {
                return BAD_VALUE;
            }
            int previous = s.plans[hour];
            s.plans[hour] = v;
            return previous + 100;
        }

        private int addContract(int hour, int units, int bonus, int fine) {
            if (hour < 0 || hour > 23) {
                return NO_SUCH;
            }
            if (units < 1 || units > 30 || bonus < 0 || bonus > 9999 || fine < 0 || fine > 9999) {
                return BAD_VALUE;
            }
            if (s.contracts.size() == 8) {
                return TOO_MANY;
            }
            s.contracts.add(new int[] {hour, units, bonus, fine});
            return s.contracts.size() - 1;
        }

        private int takeBest() {
            int[] plans = new Best(s).plans();
            if (plans == null) {
                return NOT_POSSIBLE;
            }
            int others = 0;
            for (int h = 0; h < 24; h++) {
                others += plans[h] == s.plans[h] ? 0 : 1;
            }
            s.plans = plans;
            return others;
        }

        int drop(int contract) {
            if (contract < 0 || contract >= s.contracts.size()) {
                return NO_SUCH;
            }
            State before = s.copy();
            s.contracts.remove(contract);
            return changed(before, s.contracts.size());
        }

        int hour(int hour, int what) {
            if (hour < 0 || hour > 23) {
                return NO_SUCH;
            }
            if (what < 0 || what > 10) {
                return BAD_VALUE;
            }
            Happened[] day = happens(s);
            Happened x = day[hour];
            int cause = NONE;
            for (int h = hour - 1; h >= 0 && cause == NONE && x.trouble >= 1 && x.trouble <= 3; h--) {
                cause = day[h].spilled > 0 ? h : NONE;
            }
            return new int[] {s.prices[hour], s.inflows[hour], s.plans[hour] + 100, x.down, x.pumped, x.lost, x.spilled,
                x.level, x.money + 1000000, x.trouble, cause}[what];
        }

        int ofContract(int contract, int what) {
            if (contract < 0 || contract >= s.contracts.size()) {
                return NO_SUCH;
            }
            if (what < 0 || what > 4) {
                return BAD_VALUE;
            }
            int[] c = s.contracts.get(contract);
            return what < 4 ? c[what] : happens(s)[c[0]].down >= c[1] ? 1 : 0;
        }

        int day(int what) {
            if (what < 0 || what > 10) {
                return BAD_VALUE;
            }
            int[] sums = new int[11];
            sums[0] = 10000000;
            Happened[] day = happens(s);
            for (int h = 0; h < 24; h++) {
                int[] more = {day[h].money, day[h].down, day[h].pumped, day[h].lost, day[h].spilled, 0,
                    day[h].dry ? 1 : 0, day[h].cut ? 1 : 0, 0, 0, s.inflows[h]};
                for (int i = 0; i < 11; i++) {
                    sums[i] += more[i];
                }
            }
            sums[5] = day[23].level;
            for (int[] c : s.contracts) {
                sums[8] += day[c[0]].down < c[1] ? 1 : 0;
            }
            sums[9] = sums[5] >= s.settings[END] ? 1 : 0;
            return sums[what];
        }

        int troubled(int trouble) {
            if (trouble < 1 || trouble > 4) {
                return BAD_VALUE;
            }
            int set = 0;
            for (int h = 0; h < 24; h++) {
                set += hour(h, 9) == trouble ? 1 << h : 0;
            }
            return set;
        }

        int count(int what) {
            if (what < 0 || what > 12) {
                return BAD_VALUE;
            }
            return what < 10 ? s.settings[what] : what == 10 ? s.contracts.size() : what == 11 ? pad.length() : history.size();
        }

        int best() {
            Integer most = new Best(s).from(0, s.settings[BEGIN]);
            return most == null ? NONE : most + 10000000;
        }

        int bestPlan(int hour) {
            if (hour < 0 || hour > 23) {
                return NO_SUCH;
            }
            int[] plans = new Best(s).plans();
            return plans == null ? NONE : plans[hour] + 100;
        }

        int worth(int units) {
            if (units < -200 || units > 200 || s.settings[BEGIN] + units < 0 || s.settings[BEGIN] + units > 200) {
                return BAD_VALUE;
            }
            Best best = new Best(s);
            Integer without = best.from(0, s.settings[BEGIN]);
            Integer with = best.from(0, s.settings[BEGIN] + units);
            return without == null || with == null ? NONE : with - without + 10000000;
        }

        /** All the levels that can be reached, hour by hour. */
        int highest() {
            boolean[] reached = new boolean[201];
            reached[s.settings[BEGIN]] = true;
            for (int h = 0; h < 24; h++) {
                boolean[] then = new boolean[201];
                for (int level = 0; level <= 200; level++) {
                    for (int p = -s.settings[PUMP]; reached[level] && p <= s.settings[FALL]; p++) {
                        then[happens(s, h, level, p).level] = true;
                    }
                }
                reached = then;
            }
            int highest = 200;
            while (!reached[highest]) {
                highest--;
            }
            return highest;
        }

        int put(long characters) {
            String more = "";
            for (int i = 7; i >= 0; i--) {
                int code = (int) (characters >> (8 * i)) & 255;
                if (code != 0 && (code < 33 || code > 126) || code == 0 && !more.isEmpty()) {
                    return BAD_VALUE;
                }
                more += code == 0 ? "" : String.valueOf((char) code);
            }
            if (more.isEmpty()) {
                return BAD_VALUE;
            }
            if ((pad + more).length() > 80) {
                return TOO_MANY;
            }
            pad += more;
            return pad.length();
        }

        int wipe() {
            int length = pad.length();
            pad = "";
            return length;
        }

        int fault() {
            if (TEXT.matcher(pad).matches()) {
                return NONE;
            }
            for (int i = 0; i < pad.length(); i++) {
                if (!canGoOn(pad.substring(0, i + 1))) {
                    return i;
                }
            }
            return pad.length();
        }

        int carryOut() {
            if (fault() != NONE) {
                return BAD_TEXT;
            }
            State before = s.copy();
            int done = 0;
            for (String order : pad.split(";")) {
                if (obey(order) < 0) {
                    break;
                }
                done++;
            }
            pad = "";
            return changed(before, done);
        }

        private int obey(String order) {
            Matcher c = CONTRACT.matcher(order);
            if (c.matches()) {
                return addContract(number(c, 1), number(c, 2), number(c, 3), number(c, 4));
            }
            Matcher r = ROW.matcher(order);
            if (!r.matches()) {
                return takeBest();
            }
            int from = number(r, 2), to = r.group(3) == null ? from : number(r, 3), value = number(r, 4);
            int answer = to < from ? BAD_VALUE : 0;
            for (int h = from; h <= to && answer >= 0; h++) {
                answer = order.startsWith("p") ? setPrice(h, value) : order.startsWith("i") ? setInflow(h, value) : setPlan(h, value);
            }
            return answer;
        }

        int undo() {
            if (history.isEmpty()) {
                return NOT_POSSIBLE;
            }
            s = history.removeLast();
            return history.size();
        }

        int save(int slot) {
            if (slot != 0 && slot != 1) {
                return BAD_VALUE;
            }
            slots[slot] = s.copy();
            return day(0);
        }

        int restore(int slot) {
            if (slot != 0 && slot != 1) {
                return BAD_VALUE;
            }
            if (slots[slot] == null) {
                return NOT_POSSIBLE;
            }
            State before = s;
            s = slots[slot].copy();
            return changed(before, day(0));
        }
    }

    private static final String NUMBER = "(?:0|[1-9][0-9]{0,2})";
    private static final String HOURS = NUMBER + "(?:-" + NUMBER + ")?";
    private static final String ORDER =
        "(?:[pi]" + HOURS + "=" + NUMBER + "|u" + HOURS + "=-?" + NUMBER + "|c" + NUMBER + ":" + NUMBER + "\\+" + NUMBER + "-" + NUMBER + "|a)";
    private static final Pattern TEXT = Pattern.compile(ORDER + "(?:;" + ORDER + ")*");
    private static final Pattern CONTRACT = Pattern.compile("c(\\d+):(\\d+)\\+(\\d+)-(\\d+)");
    private static final Pattern ROW = Pattern.compile("([piu])(\\d+)(?:-(\\d+))?=(-?\\d+)");
    /** Any text that can go on is a whole one with one of these behind it. */
    private static final String[] ENDS = {"", "0", "a", "=0", "0=0", "-0", "+0-0", ":0+0-0", "0-0", "0+0-0", "0:0+0-0"};

    private static boolean canGoOn(String start) {
        for (String end : ENDS) {
            if (TEXT.matcher(start + end).matches()) {
                return true;
            }
        }
        return false;
    }

    private static int number(Matcher m, int group) {
        return Integer.parseInt(m.group(group));
    }

    // ---- the runs

    private static Random random;
    private static LakePlant plant;
    private static Model model;
    private static final List<String> calls = new ArrayList<>();

    private static void due(String call, long got, long want) {
        // calls holds a line for the seed, too; what is answered behind the 512th call is free.
        if (calls.size() > 512) {
            return;
        }
        compared++;
        calls.add(call + " = " + got);
        if (got != want) {
            wrong++;
            if (wrong <= 10) {
                System.out.println(call + " answered " + got + ", due is " + want + "; the calls: "
                    + calls.subList(Math.max(0, calls.size() - 40), calls.size()));
            }
        }
    }

    /** A value from least to most, at times at an end of it or beyond. */
    private static int some(int least, int most) {
        switch (random.nextInt(16)) {
            case 0: return least;
            case 1: return most;
            case 2: return random.nextInt(8) == 0 ? least - 1 : least;
            case 3: return random.nextInt(8) == 0 ? most + 1 : most;
            case 4: return random.nextInt(40) == 0 ? Integer.MIN_VALUE : most;
            case 5: return random.nextInt(40) == 0 ? Integer.MAX_VALUE : least;
            default: return least + random.nextInt(most - least + 1);
        }
    }

    private static int someSetting() {
        return some(0, 9);
    }

    private static int someValue(int setting) {
        return some(0, setting >= 0 && setting < 10 ? TOP[setting] : 100);
    }

    private static void set(int setting, int value) {
        due("set(" + setting + ", " + value + ")", plant.set(setting, value), model.set(setting, value));
    }

    private static void putText(String text) {
        for (int i = 0; i < text.length(); ) {
            int n = Math.min(text.length() - i, 1 + random.nextInt(8));
            long characters = 0;
            for (int k = 0; k < n; k++) {
                characters = characters << 8 | text.charAt(i + k);
            }
            due("put(\"" + text.substring(i, i + n) + "\")", plant.put(characters), model.put(characters));
            i += n;
        }
    }

    private static String someNumber(int most) {
        return random.nextInt(60) == 0 ? "999" : "" + random.nextInt(most + 1);
    }

    private static String someOrder() {
        int h = random.nextInt(random.nextInt(20) == 0 ? 30 : 24);
        String hours = random.nextInt(3) > 0 ? "" + h : h + "-" + (random.nextInt(12) == 0 ? h / 2 : h + random.nextInt(26 - Math.min(h, 25)));
        switch (random.nextInt(8)) {
            case 0: case 1: return "p" + hours + "=" + someNumber(999);
            case 2: case 3: return "i" + hours + "=" + someNumber(99);
            case 4: case 5: return "u" + hours + "=" + (random.nextBoolean() ? "-" : "") + someNumber(random.nextInt(8) == 0 ? 30 : 15);
            case 6: return "c" + h + ":" + someNumber(31) + "+" + someNumber(999) + "-" + someNumber(999);
            default: return random.nextInt(4) == 0 ? "a" : "p" + hours + "=" + someNumber(20);
        }
    }

    private static String someText() {
        StringBuilder text = new StringBuilder(someOrder());
        while (random.nextInt(4) > 0 && text.length() < 65) {
            text.append(';').append(someOrder());
        }
        for (int faults = random.nextInt(6) - 3; faults > 0; faults--) {
            int at = random.nextInt(text.length());
            char sign = "piuac0123456789=-+:;x~!".charAt(random.nextInt(23));
            switch (random.nextInt(3)) {
                case 0: text.setCharAt(at, sign); break;
                case 1: text.insert(at, sign); break;
                default: text.setLength(Math.max(1, at));
            }
        }
        return text.toString();
    }

    private static void change() {
        int hour = some(0, 23);
        switch (random.nextInt(9)) {
            case 0: case 1:
                int setting = someSetting();
                set(setting, someValue(setting));
                break;
            case 2:
                int price = some(0, 999);
                due("price(" + hour + ", " + price + ")", plant.price(hour, price), model.price(hour, price));
                break;
            case 3:
                int inflow = some(0, random.nextInt(3) == 0 ? 99 : 10);
                due("inflow(" + hour + ", " + inflow + ")", plant.inflow(hour, inflow), model.inflow(hour, inflow));
                break;
            case 4: case 5:
                int units = some(-model.s.settings[PUMP], model.s.settings[FALL]);
                due("plan(" + hour + ", " + units + ")", plant.plan(hour, units), model.plan(hour, units));
                break;
            case 6: case 7:
                int u = some(1, 30), b = some(0, random.nextBoolean() ? 9999 : 300), f = some(0, random.nextBoolean() ? 9999 : 300);
                due("contract(" + hour + ", " + u + ", " + b + ", " + f + ")", plant.contract(hour, u, b, f), model.contract(hour, u, b, f));
                break;
            default:
                int contract = some(0, 7);
                due("drop(" + contract + ")", plant.drop(contract), model.drop(contract));
        }
    }

    private static void ask() {
        int hour = some(0, 23), what = some(0, 10), contract = some(0, Math.max(0, model.s.contracts.size() - 1)), part = some(0, 4);
        int trouble = some(1, 4), count = some(0, 12);
        due("hour(" + hour + ", " + what + ")", plant.hour(hour, what), model.hour(hour, what));
        due("ofContract(" + contract + ", " + part + ")", plant.ofContract(contract, part), model.ofContract(contract, part));
        due("day(" + what + ")", plant.day(what), model.day(what));
        due("troubled(" + trouble + ")", plant.troubled(trouble), model.troubled(trouble));
        due("count(" + count + ")", plant.count(count), model.count(count));
    }

    private static void askBest() {
        int hour = some(0, 23), units = some(-model.s.settings[BEGIN], 200 - model.s.settings[BEGIN]);
        due("best()", plant.best(), model.best());
        due("bestPlan(" + hour + ")", plant.bestPlan(hour), model.bestPlan(hour));
        due("worth(" + units + ")", plant.worth(units), model.worth(units));
        due("highest()", plant.highest(), model.highest());
    }

    private static void text() {
        if (random.nextInt(3) == 0) {
            long characters = random.nextInt(3) == 0 ? random.nextLong() : random.nextInt(1 << 16);
            due("put(" + characters + "L)", plant.put(characters), model.put(characters));
        } else {
            putText(someText());
        }
        due("fault()", plant.fault(), model.fault());
        if (random.nextInt(3) > 0) {
            due("carryOut()", plant.carryOut(), model.carryOut());
        }
        if (random.nextInt(3) > 0) {
            due("wipe()", plant.wipe(), model.wipe());
        }
    }

    private static void keep() {
        int slot = random.nextInt(10) == 0 ? some(0, 1) : random.nextInt(2);
        switch (random.nextInt(4)) {
            case 0: case 1:
                for (int i = random.nextInt(8); i >= 0; i--) {
                    due("undo()", plant.undo(), model.undo());
                }
                break;
            case 2:
                due("save(" + slot + ")", plant.save(slot), model.save(slot));
                break;
            default:
                due("restore(" + slot + ")", plant.restore(slot), model.restore(slot));
        }
    }

    /** Everything that can be asked for, without the best plan. */
    private static void askAll() {
        for (int h = -1; h <= 24; h++) {
            for (int what = -1; what <= 11; what++) {
                due("hour(" + h + ", " + what + ")", plant.hour(h, what), model.hour(h, what));
            }
        }
        for (int c = -1; c <= 8; c++) {
            for (int what = -1; what <= 5; what++) {
                due("ofContract(" + c + ", " + what + ")", plant.ofContract(c, what), model.ofContract(c, what));
            }
        }
        for (int what = -1; what <= 13; what++) {
            due("day(" + what + ")", plant.day(what), model.day(what));
            due("troubled(" + what + ")", plant.troubled(what), model.troubled(what));
            due("count(" + what + ")", plant.count(what), model.count(what));
        }
        due("fault()", plant.fault(), model.fault());
    }

    private static void run(int seed) {
        random = new Random(seed);
        plant = new LakePlant();
        model = new Model();
        calls.clear();
        calls.add("seed " + seed);
        for (int i = random.nextInt(12); i > 0; i--) {
            int setting = someSetting();
            set(setting, someValue(setting));
        }
        int weight = random.nextInt(4);
        while (calls.size() <= 512) {
            int draw = random.nextInt(100);
            if (draw < 45) {
                change();
            } else if (draw < 75) {
                ask();
            } else if (draw < 84) {
                text();
            } else if (draw < 94) {
                keep();
            } else if (draw < 95 + weight) {
                askBest();
            } else if (draw == 98) {
                due("adopt()", plant.adopt(), model.adopt());
            }
        }
    }

    /** A short run, behind which everything is asked. */
    private static void runAndAskAll(int seed) {
        random = new Random(seed);
        plant = new LakePlant();
        model = new Model();
        calls.clear();
        calls.add("seed " + seed);
        while (calls.size() < 30) {
            if (random.nextInt(5) == 0) {
                text();
            } else {
                change();
            }
        }
        if (random.nextInt(2) == 0) {
            due("adopt()", plant.adopt(), model.adopt());
        }
        askAll();
    }

    public static void main(String[] args) {
        int runs = args.length > 0 ? Integer.parseInt(args[0]) : 400;
        for (int seed = 1; seed <= runs; seed++) {
            run(seed);
            runAndAskAll(-seed);
        }
        System.out.println(wrong == 0 ? "all " + compared + " answers are as due" : wrong + " of " + compared + " answers are not as due");
        if (wrong != 0) {
            System.exit(1);
        }
    }
}
