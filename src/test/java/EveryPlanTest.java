import java.util.Random;

/**
 * The best plan against every plan there is: with PUMP 1 and FALL 0, or PUMP 0 and FALL 1, a day has 2 to the 24 of
 * them, which are gone through one by one (promises 8, 14, 15, 16 and 17).
 */
public final class EveryPlanTest {
    private static int wrong = 0;

    private static int flow, low, high, begin, end, dry, yield, loss, least;
    private static final int[] prices = new int[24], inflows = new int[24], plan = new int[24], bestPlan = new int[24];
    private static int[][] contracts;
    private static long most;
    private static int highest;

    private static void due(String call, long got, long want) {
        if (got != want) {
            wrong++;
            System.out.println(call + " answered " + got + ", due is " + want);
        }
    }

    /** Goes through all plans from an hour on, the lesser ones first, so that the first one with the most money stays. */
    private static void go(int hour, int level, long money) {
        if (hour == 24) {
            highest = Math.max(highest, level);
            if (level >= end && money > most) {
                most = money;
                System.arraycopy(plan, 0, bestPlan, 0, 24);
            }
            return;
        }
        for (int units = least; units <= least + 1; units++) {
            plan[hour] = units;
            int pumped = Math.max(0, -units);
            int lost = pumped == 1 && loss > 0 ? 1 : 0;
            int water = level + inflows[hour] + pumped - lost;
            int down = Math.min(Math.max(flow, units), Math.max(0, water - low));
            long more = down * prices[hour] * yield / 100 - pumped * prices[hour] - (down < flow ? dry : 0);
            for (int[] c : contracts) {
                if (c[0] == hour) {
                    more += down >= c[1] ? c[2] : -c[3];
                }
            }
            go(hour + 1, Math.min(water - down, high), money + more);
        }
    }

    private static void goThroughAll(int from) {
        most = Long.MIN_VALUE;
        highest = -1;
        go(0, from, 0);
    }

    private static void fill(LakePlant x, Random random) {
        int[] settings = {least == -1 ? 1 : 0, least == 0 ? 1 : 0, loss, yield, flow, low, high, begin, end, dry};
        x.set(LakePlant.LOW, 0);
        for (int s = 0; s < settings.length; s++) {
            if (x.set(s, settings[s]) < 0) {
                due("set(" + s + ", " + settings[s] + ")", -1, 0);
            }
        }
        for (int h = 0; h < 24; h++) {
            prices[h] = random.nextInt(4) == 0 ? 0 : random.nextInt(12) * 10;
            inflows[h] = random.nextInt(2);
            x.price(h, prices[h]);
            x.inflow(h, inflows[h]);
        }
        contracts = new int[random.nextInt(9)][];
        for (int c = 0; c < contracts.length; c++) {
            contracts[c] = new int[] {random.nextInt(24), 1, random.nextInt(90), random.nextInt(90)};
            due("contract", x.contract(contracts[c][0], 1, contracts[c][2], contracts[c][3]), c);
        }
    }

    private static void day(int seed) {
        Random random = new Random(seed);
        LakePlant x = new LakePlant();
        least = -(seed & 1);
        loss = random.nextInt(4) == 0 ? 30 : 0;
        yield = 50 + random.nextInt(51);
        flow = random.nextInt(2);
        low = random.nextInt(4);
        high = low + random.nextInt(6);
        begin = random.nextInt(8);
        end = random.nextInt(high + 1);
        dry = random.nextInt(60);
        fill(x, random);
        String what = "seed " + seed + ": ";
        int other = random.nextInt(8);
        goThroughAll(other);
        long with = most;
        goThroughAll(begin);
        boolean none = most == Long.MIN_VALUE;
        due(what + "best()", x.best(), none ? LakePlant.NONE : most + 10000000);
        due(what + "highest()", x.highest(), highest);
        due(what + "worth(" + (other - begin) + ")", x.worth(other - begin),
            none || with == Long.MIN_VALUE ? LakePlant.NONE : with - most + 10000000);
        int others = 0;
        for (int h = 0; h < 24; h++) {
            due(what + "bestPlan(" + h + ")", x.bestPlan(h), none ? LakePlant.NONE : bestPlan[h] + 100);
            others += bestPlan[h] == 0 ? 0 : 1;
        }
        due(what + "adopt()", x.adopt(), none ? LakePlant.NOT_POSSIBLE : others);
        for (int h = 0; h < 24; h++) {
            due(what + "hour(" + h + ", 2)", x.hour(h, 2), none ? 100 : bestPlan[h] + 100);
        }
        due(what + "day(9)", none ? 1 : x.day(9), 1);
        due(what + "day(0)", none ? 0 : x.day(0), none ? 0 : most + 10000000);
    }

    public static void main(String[] args) {
        for (int seed = 1; seed <= 12; seed++) {
            day(seed);
        }
        System.out.println(wrong == 0 ? "all answers are as due" : wrong + " answers are not as due");
        if (wrong != 0) {
            System.exit(1);
        }
    }
}
