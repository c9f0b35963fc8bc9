import java.util.Random;

/**
 * No call may ever throw, for any arguments in any state, and an answer is one of the error codes, NONE, or not below 0:
 * long runs with wild arguments, from fixed seeds.
 */
public final class LongRunTest {
    private static final int CALLS = 512;
    private static final int RUNS = 600;
    private static final String SIGNS = "piuac0123456789=-+:;";

    private static Random random;

    private static int wild() {
        switch (random.nextInt(5)) {
            case 0: return random.nextInt();
            case 1: return new int[] {Integer.MIN_VALUE, Integer.MAX_VALUE, -1, 0, 1, Integer.MIN_VALUE + 1}[random.nextInt(6)];
            case 2: return random.nextInt(32);
            case 3: return random.nextInt(260) - 30;
            default: return random.nextInt(12);
        }
    }

    private static long wildCharacters() {
        long characters = 0;
        for (int i = random.nextInt(9); i > 0; i--) {
            characters = characters << 8 | SIGNS.charAt(random.nextInt(SIGNS.length()));
        }
        return random.nextInt(8) == 0 ? random.nextLong() : random.nextInt(3) == 0 ? 'a' : characters;
    }

    private static int call(LakePlant x, int method) {
        switch (method) {
            case 0: return x.set(wild(), wild());
            case 1: return x.price(wild(), wild());
            case 2: return x.inflow(wild(), wild());
            case 3: return x.plan(wild(), wild() - 10);
            case 4: return x.contract(wild(), wild(), wild(), wild());
            case 5: return x.drop(wild());
            case 6: return x.adopt();
            case 7: return x.hour(wild(), wild());
            case 8: return x.ofContract(wild(), wild());
            case 9: return x.day(wild());
            case 10: return x.troubled(wild());
            case 11: return x.count(wild());
            case 12: return x.best();
            case 13: return x.bestPlan(wild());
            case 14: return x.worth(wild());
            case 15: return x.highest();
            case 16: return x.put(wildCharacters());
            case 17: return x.wipe();
            case 18: return x.fault();
            case 19: return x.carryOut();
            case 20: return x.undo();
            case 21: return x.save(random.nextInt(3));
            default: return x.restore(random.nextInt(3));
        }
    }

    public static void main(String[] args) {
        for (int seed = 1; seed <= RUNS; seed++) {
            random = new Random(seed);
            LakePlant x = new LakePlant();
            for (int i = 0; i < CALLS; i++) {
                int method = random.nextInt(23);
                int answer = call(x, method);
                if (answer < LakePlant.NONE) {
                    System.out.println("seed " + seed + ", call " + i + ": method " + method + " answered " + answer);
                    System.exit(1);
                }
            }
        }
        System.out.println("all answers are possible ones");
    }
}
