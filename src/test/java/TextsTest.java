/**
 * The sentences of the document's term 'Texts' that name a boundary. Each of them is told in its test.
 */
public final class TextsTest extends Sentences {
    private static final String DIGITS = "0123456789";

    private static int faultOf(String text) {
        LakePlant x = new LakePlant();
        write(x, text);
        return x.fault();
    }

    private static void dueFault(String text, int want) {
        due("fault() of " + text, faultOf(text), want);
    }

    /** Behind the beginning of a text only some characters can stand: a fault there of all others, and of none of these. */
    private static void dueNext(String beginning, String characters) {
        for (char next = 33; next <= 126; next++) {
            boolean canStand = characters.indexOf(next) >= 0;
            int fault = faultOf(beginning + next);
            int at = beginning.length();
            due("whether " + next + " can stand behind \"" + beginning + "\"", fault == at ? 0 : 1, canStand ? 1 : 0);
            if (canStand) {
                due("whether the end behind \"" + beginning + next + "\" is right, or too early",
                    fault == NONE || fault == at + 1 ? 1 : 0, 1);
            }
        }
    }

    /** Of the orders that are parted by bars, those ahead of the first error are carried out. */
    private static void dueDone(LakePlant x, String text, int want) {
        due("carryOut() of " + text, carriedOut(x, text), want);
        due("count(11) behind " + text, x.count(11), 0);
    }

    private static void atMost80Characters() {
        sentence("The pad is a text of at most 80 characters, a row of orders");
        LakePlant x = new LakePlant();
        write(x, textOf(79));
        due("count(11)", x.count(11), 79);
        due("fault() of 79", x.fault(), NONE);
        due("put of two at 79", x.put(packed(";a")), TOO_MANY);
        due("count(11): not even one of them", x.count(11), 79);
        due("put of one at 79", x.put(';'), 80);
        due("fault() of 80, which end too early", x.fault(), 80);
        due("put of one at 80", x.put('a'), TOO_MANY);
        due("carryOut() of 80", x.carryOut(), BAD_TEXT);
        x.wipe();
        write(x, "p0=0;" + textOf(75));
        due("count(11)", x.count(11), 80);
        due("fault() of 80 without a fault", x.fault(), NONE);
        due("carryOut() of 80", x.carryOut(), 39);
        x.wipe();
        write(x, textOf(79) + "a");
        due("fault() of 80, the last one wrong", x.fault(), 79);
    }

    private static void rowsOfOrders() {
        sentence("text = order { \";\" order }");
        dueNext("", "piuca");
        dueNext("a", ";");
        dueNext("a;", "piuca");
        dueNext("a;a", ";");
        dueNext("p1=2;", "piuca");
        dueFault(";", 0);
        dueFault("a;", 2);
        dueFault("a;;a", 2);
        dueFault(";a", 0);
        dueFault("a,a", 1);
        dueFault("p0=1;i0=1;u0=1;c0:1+1-1;a", NONE);
    }

    private static void ordersOfHours() {
        sentence("order = \"p\" hours \"=\" number | \"i\" hours \"=\" number");
        for (String letter : new String[] {"p", "i", "a;p"}) {
            dueNext(letter, DIGITS);
            dueNext(letter + "1=", DIGITS);
            dueNext(letter + "1=0", ";");
            dueNext(letter + "1=2", DIGITS + ";");
            dueNext(letter + "1=23", DIGITS + ";");
            dueNext(letter + "1=234", ";");
            dueFault(letter + "1=-2", letter.length() + 2);
            dueFault(letter + "1==2", letter.length() + 2);
        }
    }

    private static void ordersOfPlans() {
        sentence("\"u\" hours \"=\" [ \"-\" ] number");
        dueNext("u", DIGITS);
        dueNext("u1=", DIGITS + "-");
        dueNext("u1=-", DIGITS);
        dueNext("u1=-0", ";");
        dueNext("u1=-2", DIGITS + ";");
        dueNext("u1=-234", ";");
        dueNext("u1-2=", DIGITS + "-");
        dueFault("u1=--2", 4);
        dueFault("u-1=2", 1);
        LakePlant x = new LakePlant();
        dueDone(x, "u1=-20;u2=20;u3=-0;u4=0", 4);
        due("hour(1, 2)", x.hour(1, 2), 80);
        due("hour(2, 2)", x.hour(2, 2), 120);
        due("hour(3, 2)", x.hour(3, 2), 100);
        dueDone(x, "p5=7;u4=-1;p6=8", 3);
        due("hour(5, 0): no sign of another order", x.hour(5, 0), 7);
        due("hour(6, 0): no sign of the order ahead", x.hour(6, 0), 8);
    }

    private static void ordersOfContracts() {
        sentence("\"c\" number \":\" number \"+\" number \"-\" number");
        dueNext("c", DIGITS);
        dueNext("c0", ":");
        dueNext("c1", DIGITS + ":");
        dueNext("c123", ":");
        dueNext("c1:", DIGITS);
        dueNext("c1:0", "+");
        dueNext("c1:2", DIGITS + "+");
        dueNext("c1:234", "+");
        dueNext("c1:2+", DIGITS);
        dueNext("c1:2+0", "-");
        dueNext("c1:2+3", DIGITS + "-");
        dueNext("c1:2+345", "-");
        dueNext("c1:2+3-", DIGITS);
        dueNext("c1:2+3-0", ";");
        dueNext("c1:2+3-4", DIGITS + ";");
        dueNext("c1:2+3-456", ";");
        dueFault("c1-2:1+1-1", 2);
    }

    private static void ordersToAdopt() {
        sentence("| \"a\"");
        dueNext("a", ";");
        dueFault("a", NONE);
        dueFault("aa", 1);
        dueFault("a0", 1);
        dueFault("A", 0);
    }

    private static void hoursOfOrders() {
        sentence("hours = number [ \"-\" number ]");
        dueNext("p0", "-=");
        dueNext("p1", DIGITS + "-=");
        dueNext("p12", DIGITS + "-=");
        dueNext("p123", "-=");
        dueNext("p1-", DIGITS);
        dueNext("p1-0", "=");
        dueNext("p1-2", DIGITS + "=");
        dueNext("p1-23", DIGITS + "=");
        dueNext("p1-234", "=");
        dueFault("p1-2-3=4", 4);
        dueFault("p999-999=0", NONE);
        LakePlant x = new LakePlant();
        dueDone(x, "p1=7;p3-3=8;p5-6=9", 3);
        int[] prices = {100, 7, 100, 8, 100, 9, 9, 100};
        for (int hour = 0; hour < prices.length; hour++) {
            due("hour(" + hour + ", 0)", x.hour(hour, 0), prices[hour]);
        }
        dueDone(x, "p0-23=1", 1);
        due("hour(0, 0)", x.hour(0, 0), 1);
        due("hour(23, 0)", x.hour(23, 0), 1);
    }

    private static void upToTheFirstError() {
        sentence("\"p\": price() of an hour, or of all from one to another, one after the other, up to the first one that returns "
            + "an error, which the order returns (those ahead of it stay");
        LakePlant x = new LakePlant();
        dueDone(x, "p22-24=7;p0=7", 0);
        due("hour(21, 0): not from this hour on", x.hour(21, 0), 100);
        due("hour(22, 0): it stays", x.hour(22, 0), 7);
        due("hour(23, 0): it stays", x.hour(23, 0), 7);
        due("hour(0, 0): behind the error", x.hour(0, 0), 100);
        dueDone(x, "p23=5;p24=5", 1);
        due("hour(23, 0)", x.hour(23, 0), 5);
        dueDone(x, "p24-30=6;p1=6", 0);
        dueDone(x, "p23-999=999;p1=6", 0);
        due("hour(23, 0)", x.hour(23, 0), 999);
        dueDone(x, "p999=0", 0);
        due("hour(1, 0)", x.hour(1, 0), 100);
        dueDone(x, "p0-23=0", 1);
        dueDone(x, "p0-23=999", 1);
    }

    private static void notBackwards() {
        sentence("BAD_VALUE, and nothing is done, if the second hour is less than the first one");
        LakePlant x = new LakePlant();
        dueDone(x, "p5-4=7;p0=7", 0);
        dueDone(x, "p23-0=7", 0);
        dueDone(x, "p24-23=7", 0);
        dueDone(x, "i5-4=7", 0);
        dueDone(x, "u5-4=7", 0);
        dueDone(x, "u24-23=7", 0);
        due("whether nothing is done", same(x), 1);
        dueDone(x, "p5-5=7;i5-5=7;u5-5=7", 3);
        due("hour(5, 0): the second hour may be the first one", x.hour(5, 0), 7);
        due("hour(5, 1)", x.hour(5, 1), 7);
        due("hour(5, 2)", x.hour(5, 2), 107);
        dueDone(x, "p9-10=8", 1);
    }

    /** Whether all prices, inflows and plans are those of a new object. */
    private static int same(LakePlant x) {
        for (int hour = 0; hour < 24; hour++) {
            if (x.hour(hour, 0) != 100 || x.hour(hour, 1) != 3 || x.hour(hour, 2) != 100) {
                return 0;
            }
        }
        return 1;
    }

    private static void inflowsAndPlansLikewise() {
        sentence("\"i\": inflow(), \"u\": plan() likewise");
        LakePlant x = new LakePlant();
        dueDone(x, "i22-24=99;i0=1", 0);
        due("hour(22, 1)", x.hour(22, 1), 99);
        due("hour(23, 1)", x.hour(23, 1), 99);
        due("hour(0, 1)", x.hour(0, 1), 3);
        dueDone(x, "i0=100", 0);
        dueDone(x, "i0-23=100", 0);
        dueDone(x, "i0=0", 1);
        dueDone(x, "u22-24=20;u0=1", 0);
        due("hour(22, 2)", x.hour(22, 2), 120);
        due("hour(23, 2)", x.hour(23, 2), 120);
        due("hour(0, 2)", x.hour(0, 2), 100);
        dueDone(x, "u0=21", 0);
        dueDone(x, "u0=-21", 0);
        dueDone(x, "u0-1=-21", 0);
        dueDone(x, "u24=0", 0);
        dueDone(x, "u24=-0", 0);
        due("hour(0, 2)", x.hour(0, 2), 100);
        x.set(PUMP, 5);
        dueDone(x, "u0=-5;u0=-6", 1);
        due("hour(0, 2)", x.hour(0, 2), 95);
    }

    private static void contractsByText() {
        sentence("\"c\": contract() of an hour: its units, bonus and fine");
        LakePlant x = new LakePlant();
        dueDone(x, "c23:30+999-998", 1);
        int[] parts = {23, 30, 999, 998};
        for (int what = 0; what < 4; what++) {
            due("ofContract(0, " + what + ")", x.ofContract(0, what), parts[what]);
        }
        dueDone(x, "c24:1+0-0;a", 0);
        dueDone(x, "c0:0+0-0;a", 0);
        dueDone(x, "c0:31+0-0;a", 0);
        dueDone(x, "c0:1+0-0;c24:1+0-0", 1);
        due("count(10)", x.count(10), 2);
        dueDone(x, "c0:1+0-0;c1:1+0-0;c2:1+0-0;c3:1+0-0;c4:1+0-0;c5:1+0-0", 6);
        dueDone(x, "c6:1+0-0;p0=0", 0);
        due("count(10)", x.count(10), 8);
        due("hour(0, 0): behind a ninth one", x.hour(0, 0), 100);
    }

    private static void adoptByText() {
        sentence("\"a\": adopt().");
        LakePlant x = plainDay();
        dueDone(x, "a", 1);
        due("hour(7, 2)", x.hour(7, 2), 110);
        due("hour(15, 2)", x.hour(15, 2), 110);
        dueDone(x, "a;p7=30;a", 3);
        due("day(0): by the plan of the prices then", x.day(0), 10000000 + 300 + 200);
        dueDone(x, "i0=0;a;p7=0;p15=40;a;u15=3", 6);
        due("hour(15, 2): changed behind it", x.hour(15, 2), 103);
        x.set(END, 26);
        dueDone(x, "p0=1;a;p0=2", 1);
        due("hour(0, 0): nothing is done behind an a without a best plan", x.hour(0, 0), 1);
        dueDone(x, "i23=1;a", 2);
    }

    private static void numbers() {
        sentence("A number is 0 to 999, without leading zeros.");
        dueFault("p0=0", NONE);
        dueFault("p1=999", NONE);
        dueFault("p1=1000", 6);
        dueFault("p1=9990", 6);
        dueFault("p1=00", 4);
        dueFault("p1=01", 4);
        dueFault("p1=0999", 4);
        dueFault("p1=100", NONE);
        dueFault("p1=101", NONE);
        dueFault("p00=1", 2);
        dueFault("p1-00=1", 4);
        dueFault("u1=-00", 5);
        dueFault("u1=-999", NONE);
        dueFault("u1=-1000", 7);
        dueFault("c00:1+1-1", 2);
        dueFault("c0:01+1-1", 4);
        dueFault("c0:1+01-1", 6);
        dueFault("c0:1+1-01", 8);
        dueFault("c999:999+999-999", NONE);
        LakePlant x = new LakePlant();
        dueDone(x, "p0=0;p1=9;p2=10;p3=99;p4=100;p5=999", 6);
        int[] prices = {0, 9, 10, 99, 100, 999};
        for (int hour = 0; hour < prices.length; hour++) {
            due("hour(" + hour + ", 0)", x.hour(hour, 0), prices[hour]);
        }
    }

    private static void firstCharacterThatCannotStand() {
        sentence("The fault is the index of the first character that cannot stand at its place when the text is read from left to right");
        dueFault("x", 0);
        dueFault("xx", 0);
        dueFault("a;x;x", 2);
        dueFault("p1=2;q", 5);
        dueFault("p1=x;a;x", 3);
        dueFault("1p=2", 0);
        dueFault("p5-4=7", NONE);
        dueFault("p99=999;c99:99+9-9", NONE);
        LakePlant x = new LakePlant();
        write(x, "p1=");
        due("fault() of p1=", x.fault(), 3);
        x.put('x');
        due("fault() of p1=x", x.fault(), 3);
        x.put('2');
        due("fault() of p1=x2", x.fault(), 3);
        due("carryOut() of p1=x2", x.carryOut(), BAD_TEXT);
        due("fault(): the pad stays", x.fault(), 3);
    }

    private static void digitsAbove999() {
        sentence("(also of a digit by which a number would be above 999)");
        dueFault("p1000=1", 4);
        dueFault("p9999", 4);
        dueFault("p1-1000=1", 6);
        dueFault("p1=1000", 6);
        dueFault("p1=99999", 6);
        dueFault("i1=1000", 6);
        dueFault("u1=1000", 6);
        dueFault("u1=-1000", 7);
        dueFault("c1000:1+1-1", 4);
        dueFault("c1:1000+1-1", 6);
        dueFault("c1:1+1000-1", 8);
        dueFault("c1:1+1-1000", 10);
    }

    private static void endsTooEarly() {
        sentence("if there is none and the text ends too early (also if it is empty), it is the length of the text.");
        due("fault() of a new object", new LakePlant().fault(), 0);
        LakePlant x = new LakePlant();
        x.put('a');
        x.wipe();
        due("fault() of an emptied pad", x.fault(), 0);
        due("carryOut() of it", x.carryOut(), BAD_TEXT);
        String text = "a;p1-23=4;i5=6;u7=-8;c9:10+11-12";
        String wholeBehind = "a;p1-23=4;i5=6;u7=-8;c9:10+11-1";
        for (int length = 1; length <= text.length(); length++) {
            String part = text.substring(0, length);
            boolean whole = part.equals("a") || part.equals("a;p1-23=4") || part.equals("a;p1-23=4;i5=6")
                || part.equals("a;p1-23=4;i5=6;u7=-8") || part.equals(wholeBehind) || part.equals(text);
            dueFault(part, whole ? NONE : length);
        }
        for (int length = 1; length <= 80; length++) {
            dueFault(textOf(length), length % 2 == 1 ? NONE : length);
        }
    }

    public static void main(String[] args) {
        atMost80Characters();
        rowsOfOrders();
        ordersOfHours();
        ordersOfPlans();
        ordersOfContracts();
        ordersToAdopt();
        hoursOfOrders();
        upToTheFirstError();
        notBackwards();
        inflowsAndPlansLikewise();
        contractsByText();
        adoptByText();
        numbers();
        firstCharacterThatCannotStand();
        digitsAbove999();
        endsTooEarly();
        end();
    }
}
