import java.io.IOException;
import java.nio.file.Files;
import java.nio.file.Path;
import java.util.Arrays;

/**
 * What the tests of the document's sentences share. A test tells a sentence of the document first, word for word, and
 * then asks for the answers that are due by it; each answer that is not as due is printed with its sentence. Tests
 * extend this class only to call its functions by their plain names.
 */
abstract class Sentences {
    static final int NO_SUCH = -1, BAD_VALUE = -2, BAD_TEXT = -3, TOO_MANY = -4, NOT_POSSIBLE = -5, NONE = -6;
    static final int PUMP = 0, FALL = 1, LOSS = 2, YIELD = 3, FLOW = 4, LOW = 5, HIGH = 6, BEGIN = 7, END = 8, DRY = 9;
    static final int LEAST_INT = Integer.MIN_VALUE, MOST_INT = Integer.MAX_VALUE;

    private static final Path DOCUMENT = Path.of("../shared/DOC.md");
    private static final String TEXT = inOneLine(readDocument());

    private static String told = "";
    private static int sentences = 0;
    private static int wrong = 0;

    /** The document's text; where it can't be read, its sentences are not compared with it, and the end tells so. */
    private static String readDocument() {
        try {
            return Files.readString(DOCUMENT);
        } catch (IOException e) {
            return "";
        }
    }

    private static String inOneLine(String text) {
        return text.replaceAll("\\s+", " ");
    }

    /** Tells the sentence that the answers are about from here on; it has to stand in the document. */
    static void sentence(String words) {
        told = words;
        sentences++;
        if (!TEXT.isEmpty() && !TEXT.contains(inOneLine(words))) {
            wrong++;
            System.out.println("\"" + words + "\" does not stand in the document");
        }
    }

    static void due(String call, long got, long want) {
        if (got != want) {
            wrong++;
            System.out.println("\"" + told + "\": " + call + " answered " + got + ", due is " + want);
        }
    }

    /** Ends a test, with exit code 1 if an answer was not as due. */
    static void end() {
        if (TEXT.isEmpty()) {
            System.out.println("the sentences were not compared with the document: it is not at " + DOCUMENT);
        }
        System.out.println(wrong == 0 ? "all answers are as due, by " + sentences + " sentences" : wrong + " answers are not as due");
        if (wrong != 0) {
            System.exit(1);
        }
    }

    /** One to eight characters as the number that put() takes. */
    static long packed(String characters) {
        long number = 0;
        for (int i = 0; i < characters.length(); i++) {
            number = number << 8 | characters.charAt(i);
        }
        return number;
    }

    /** Appends a text to the pad, eight characters at a time. */
    static void write(LakePlant x, String text) {
        for (int i = 0; i < text.length(); i += 8) {
            x.put(packed(text.substring(i, Math.min(i + 8, text.length()))));
        }
    }

    /** Empties the pad, writes a text and carries it out. */
    static int carriedOut(LakePlant x, String text) {
        x.wipe();
        write(x, text);
        return x.carryOut();
    }

    /** A text of a length of 1 to 80 without a fault, unless the length is even: then it ends too early. */
    static String textOf(int length) {
        return "a;".repeat(length).substring(0, length);
    }

    /**
     * A day on which the best plan is plain to see: nothing flows in, is lost, is asked for in the end or can be
     * pumped, up to 10 can be let down in an hour of the 25 that there are, and only two hours pay.
     */
    static LakePlant plainDay() {
        LakePlant x = new LakePlant();
        x.set(FLOW, 0);
        x.set(LOSS, 0);
        x.set(YIELD, 100);
        x.set(LOW, 0);
        x.set(BEGIN, 25);
        x.set(END, 0);
        x.set(FALL, 10);
        x.set(PUMP, 0);
        carriedOut(x, "p0-23=0;i0-23=0;p7=10;p15=20");
        return x;
    }

    /** All that can be asked without a change, in less than 400 calls. */
    static int[] everything(LakePlant x) {
        int[] answers = new int[400];
        int n = 0;
        for (int hour = 0; hour < 24; hour++) {
            for (int what = 0; what <= 10; what++) {
                answers[n++] = x.hour(hour, what);
            }
            answers[n++] = x.bestPlan(hour);
        }
        for (int contract = 0; contract < 8; contract++) {
            for (int what = 0; what <= 4; what++) {
                answers[n++] = x.ofContract(contract, what);
            }
        }
        for (int what = 0; what <= 12; what++) {
            answers[n++] = x.count(what);
            answers[n++] = what <= 10 ? x.day(what) : 0;
        }
        answers[n++] = x.best();
        answers[n++] = x.worth(1);
        answers[n++] = x.highest();
        answers[n] = x.fault();
        return answers;
    }

    /** Whether everything that can be asked of one is the same as of another. */
    static int alike(LakePlant x, LakePlant other) {
        return Arrays.equals(everything(x), everything(other)) ? 1 : 0;
    }
}
