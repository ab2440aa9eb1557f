import java.math.BigInteger;
import java.util.NoSuchElementException;

/** What the tests of boundary cases share. Each case stands under the sentence of the document that names it. */
final class Edges {
    static final int MIN = Integer.MIN_VALUE;
    static final int MAX = Integer.MAX_VALUE;
    static final int NONE = -1;
    static final int NO_GATE = -101;
    static final int NO_WHAT = -102;
    static final String GATE = "gate a 24 24 20;";
    static final int A = 1 << 25;

    private static String sentence = "";
    private static int wrong = 0;
    private static int cases = 0;

    private Edges() {
    }

    /** The cases that follow belong to this sentence. */
    static void says(String words) {
        sentence = words;
    }

    static void due(String call, long got, long want) {
        cases++;
        if (got != want) {
            wrong++;
            System.out.println("'" + sentence + "': " + call + " answered " + got + ", due is " + want);
        }
    }

    static void yes(String call, boolean got) {
        due(call, got ? 1 : 0, 1);
    }

    static void no(String call, boolean got) {
        due(call, got ? 1 : 0, 0);
    }

    static void end(String of) {
        System.out.println(of + ": " + (wrong == 0 ? "all " + cases + " cases hold" : wrong + " of " + cases + " cases are wrong"));
        System.exit(wrong == 0 && cases > 0 ? 0 : 1);
    }

    static String times(String part, int n) {
        return part.repeat(n);
    }

    /** Twenty bytes of a text from a place on, blanks behind its end; answers what feed answers. */
    static int feedTwenty(SagGates x, String text, int from) {
        int[] numbers = new int[5];
        for (int i = 0; i < 20; i++) {
            int sign = from + i < text.length() ? text.charAt(from + i) : ' ';
            numbers[i / 4] = numbers[i / 4] << 8 | sign & 255;
        }
        return x.feed(numbers[0], numbers[1], numbers[2], numbers[3], numbers[4]);
    }

    static void feed(SagGates x, String text) {
        for (int from = 0; from < text.length(); from += 20) {
            feedTwenty(x, text, from);
        }
    }

    static int tell(SagGates x, String text) {
        feed(x, text);
        return x.text(text.length());
    }

    static SagGates told(String text) {
        SagGates x = new SagGates();
        int lines = tell(x, text);
        due("'" + text + "' has fault " + x.fault(0) + " at " + x.fault(1) + ": whether text", lines < 0 ? 1 : 0, 0);
        return x;
    }

    static void good(String text, int lines) {
        SagGates x = new SagGates();
        due("text '" + text + "'", tell(x, text), lines);
        due("fault(0) of '" + text + "'", x.fault(0), 0);
        due("fault(1) of '" + text + "'", x.fault(1), NONE);
    }

    static void faulty(String text, int fault, int place) {
        SagGates x = new SagGates();
        due("text '" + text + "'", tell(x, text), NONE);
        due("fault(0) of '" + text + "'", x.fault(0), fault);
        due("fault(1) of '" + text + "'", x.fault(1), place);
    }

    /** A number that takes no sign, with all that ends() looks at. */
    static void number(String before, int low, int high, String after) {
        ends(before, low, high, after);
        faulty(before + "- " + high + after, 1, before.length());
        faulty(before + "+" + high + after, 1, before.length());
    }

    /** A number of a line at both ends of what is said, just beyond both, and far beyond what an int holds. */
    static void ends(String before, int low, int high, String after) {
        told(before + low + after);
        told(before + high + after);
        told(before + "0000000000000000" + high + after);
        int place = before.length();
        if (low > 0) {
            faulty(before + (low - 1) + after, 2, place);
            faulty(before + "0" + after, 2, place);
        }
        faulty(before + (high + 1) + after, 2, place);
        faulty(before + (high + 1), 2, place);
        faulty(before + (4294967296L + low) + after, 2, place);
        faulty(before + BigInteger.ONE.shiftLeft(64).add(BigInteger.valueOf(high)) + after, 2, place);
        faulty(before + "99999999999999999999999999999999999" + after, 2, place);
    }

    /** What look answers, or which exception it throws. */
    static int looked(SagGates x, int gate, int what) {
        try {
            return x.look(gate, what);
        } catch (IndexOutOfBoundsException e) {
            return NO_GATE;
        } catch (NoSuchElementException e) {
            return NO_WHAT;
        }
    }

    /** The value of an E, asked for as a knock. */
    static long value(String law) {
        return told("law knock " + law + ";" + GATE).knock(0, 7);
    }

    /** By how much a gate leans, opens, bends in week 0 by a law. */
    static int growth(String kind, String law) {
        SagGates x = told("law " + kind + " " + law + ";" + GATE);
        x.weeks(1);
        return x.sags(0, kind.equals("lean") ? 1 : kind.equals("open") ? 2 : 3);
    }
}
