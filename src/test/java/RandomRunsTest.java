import java.util.ArrayList;
import java.util.List;
import java.util.NoSuchElementException;
import java.util.Random;

/** Random runs of calls, each answer held against the Model's. The seeds are fixed, so every run is the same. */
public final class RandomRunsTest {
    private static final int RUNS = 1500;
    private static final int CALLS = 120;

    private final Random random;
    private final SagGates program = new SagGates();
    private final Model model = new Model();
    private final List<String> calls = new ArrayList<>();
    private final List<String> toldCauses = new ArrayList<>();
    private boolean wrong;
    private static final int[] seen = new int[5];

    private RandomRunsTest(long seed) {
        random = new Random(seed);
    }

    public static void main(String[] args) {
        int failures = 0;
        int runs = args.length > 0 ? Integer.parseInt(args[0]) : RUNS;
        for (int seed = 1; seed <= runs && failures < 3; seed++) {
            if (!new RandomRunsTest(seed).run()) {
                failures++;
                System.out.println("random run with seed " + seed + " is not as due");
            }
        }
        System.out.println("texts by fault, without one first: " + java.util.Arrays.toString(seen));
        for (int kind = 0; kind < seen.length; kind++) {
            if (seen[kind] == 0) {
                failures++;
                System.out.println("no text with fault " + kind);
            }
        }
        System.exit(failures == 0 ? 0 : 1);
    }

    private boolean run() {
        for (int i = 0; i < CALLS && !wrong; i++) {
            if (i == 3 || model.count(0) == 0 && i > 3 && chance(60) || below(50) == 0) {
                tellText();
            } else {
                call();
            }
        }
        return !wrong;
    }

    private int below(int n) {
        return random.nextInt(n);
    }

    private int from(int low, int high) {
        return low + random.nextInt(high - low + 1);
    }

    private boolean chance(int percent) {
        return random.nextInt(100) < percent;
    }

    private void due(String call, long got, long want) {
        calls.add(call + " = " + want);
        if (got != want) {
            wrong = true;
            for (int i = Math.max(0, calls.size() - 40); i < calls.size(); i++) {
                System.out.println("  " + calls.get(i));
            }
            System.out.println(call + " answered " + got + ", due is " + want);
        }
    }

    // texts

    private void tellText() {
        StringBuilder text = new StringBuilder();
        if (chance(60)) {
            text.append(ground());
        }
        List<String> kinds = new ArrayList<>(List.of("lean", "open", "bend", "knock"));
        toldCauses.clear();
        for (int causes = below(4); causes > 0; causes--) {
            text.append(cause());
        }
        for (int i = 0; i < 4; i++) {
            if (chance(80)) {
                text.append("law ").append(kinds.get(i)).append(' ').append(chance(50) ? law(3) : plainLaw()).append(';');
            }
        }
        for (int gates = from(1, chance(5) ? 5 : 3); gates > 0; gates--) {
            text.append(gate());
        }
        for (int works = below(chance(5) ? 8 : 6); works > 0; works--) {
            text.append(work());
        }
        if (chance(20)) {
            text.append(pick(cause(), gate(), ground(), "law lean 1;"));
        }
        String whole = chance(25) ? spoil(text.toString()) : text.toString();
        tell(whole.length() > 880 ? whole.substring(0, 880) : whole);
    }

    private void tell(String text) {
        calls.add("text '" + text + "'");
        int length = text.length();
        StringBuilder padded = new StringBuilder(text);
        while (padded.length() % 20 != 0) {
            padded.append(' ');
        }
        if (chance(5)) {
            due("text(0)", program.text(0), model.text(0));
        }
        for (int i = 0; i < padded.length(); i += 20) {
            int[] n = new int[5];
            for (int k = 0; k < 20; k++) {
                n[k / 4] = n[k / 4] << 8 | padded.charAt(i + k) & 255;
            }
            due("feed", program.feed(n[0], n[1], n[2], n[3], n[4]), model.feed(n));
        }
        due("text(" + length + ")", program.text(length), model.text(length));
        due("fault(0)", program.fault(0), model.fault(0));
        due("fault(1)", program.fault(1), model.fault(1));
        if (model.fault(0) >= 0 && model.fault(0) < seen.length) {
            seen[model.fault(0)]++;
        }
    }

    private String spoil(String text) {
        StringBuilder spoilt = new StringBuilder(text);
        for (int i = from(1, 2); i > 0 && spoilt.length() > 2; i--) {
            int at = below(spoilt.length());
            switch (below(5)) {
                case 0 -> spoilt.deleteCharAt(at);
                case 1 -> spoilt.insert(at, pick(" ", "0", "9", "x", "(", ")", "-", "<", ">", "=", "not ", ";", "\n", "\t", "#"));
                case 2 -> spoilt.setCharAt(at, (char) below(256));
                case 3 -> spoilt.setLength(at);
                default -> spoilt.setCharAt(at, spoilt.charAt(below(spoilt.length())));
            }
        }
        return spoilt.toString();
    }

    private String pick(String... of) {
        return of[below(of.length)];
    }

    /** Mostly inside the bounds, at times just beyond. */
    private String number(int low, int high) {
        if (chance(1)) {
            return String.valueOf(chance(50) || low == 0 ? high + 1 : low - 1);
        }
        if (chance(10)) {
            return String.valueOf(chance(50) ? low : high);
        }
        return String.valueOf(from(low, high));
    }

    private String numbers(int count, int low, int high) {
        StringBuilder row = new StringBuilder();
        for (int i = 0; i < count; i++) {
            row.append(' ').append(number(low, high));
        }
        return row.toString();
    }

    private String ground() {
        return "ground" + numbers(12, 1, 99) + ";";
    }

    private String cause() {
        String name = pick("r", "rot", "wet", "frost", "c");
        while (toldCauses.contains(name) && !chance(5)) {
            name += "x";
        }
        toldCauses.add(name);
        return "cause " + name + numbers(1, 1, 99) + " "
            + pick("lean", "open", "bend") + numbers(1, 1, chance(50) ? 30 : 999) + ";";
    }

    private String hadCause() {
        return chance(3) || toldCauses.isEmpty() ? pick("rot", "wet", "c") : toldCauses.get(below(toldCauses.size()));
    }

    private String freshName() {
        StringBuilder name = new StringBuilder();
        for (int letters = from(1, 6); letters > 0; letters--) {
            name.append((char) ('a' + below(26)));
        }
        return chance(2) ? pick("a", "b", "lean", "fall", "toolong") : name.toString();
    }

    private String work() {
        String kind = pick("brace", "square", "wire", "wheel", "stones", "post", "rehang");
        String behind = switch (kind) {
            case "wire", "rehang" -> numbers(1, 0, chance(50) ? 500 : 9999);
            case "wheel" -> numbers(1, 0, 100);
            case "stones" -> numbers(1, 0, 99);
            case "post" -> numbers(1, 0, 60);
            default -> "";
        };
        return "work " + freshName() + " " + number(1, 40) + " " + kind + behind + ";";
    }

    private String offset() {
        return (chance(40) ? " -" : "") + numbers(1, 0, 30);
    }

    private String gate() {
        int height = from(24, 72);
        StringBuilder gate = new StringBuilder("gate " + freshName());
        gate.append(numbers(1, 24, 144)).append(' ').append(height).append(numbers(1, 20, 400));
        for (int parts = below(8); parts > 0; parts--) {
            String part = pick("hooks", "post", "brace", "latch", "child", "gap", "rise", "has");
            boolean told = gate.indexOf(" " + part) >= 0;
            if ((told || part.equals("has") && toldCauses.isEmpty()) && !chance(4)) {
                continue;
            }
            gate.append(' ').append(part).append(switch (part) {
                case "hooks" -> {
                    int lower = from(0, height - 1);
                    yield " " + lower + " " + from(chance(1) ? lower : lower + 1, height) + offset() + offset();
                }
                case "post" -> numbers(1, 12, 60) + numbers(1, 3, 14);
                case "brace" -> pick(" up", " down");
                case "latch" -> numbers(2, 0, chance(50) ? 500 : 9999);
                case "child" -> numbers(1, 0, 200);
                case "gap" -> numbers(1, 0, 9999);
                case "rise" -> numbers(9, 0, chance(50) ? 30 : 200);
                default -> " " + hadCause();
            });
        }
        return gate.append(';').toString();
    }

    /** A law by which gates sag slowly, so that works, children and posts matter. */
    private String plainLaw() {
        return pick("pull / firm", "pull * " + from(1, 9) + " / (deep * " + from(1, 3) + ")", "child * " + from(1, 9) + " / thick",
            from(5, 30) + " - " + from(1, 9) + " * up + " + from(0, 9) + " * down", "1 + drop / " + from(5, 99),
            "(pull - " + from(1, 300) + ") * 10 / deep", "week / " + from(1, 9), "(week - 3) * (drop < 300) + child / 8",
            from(20, 60) + " - deep", "100 / (week - " + from(1, 6) + ")", "(firm < 40) * pull / 20 + fall",
            "deep * (drop <= 200 and not up) + 3", "60 - firm / 2 - deep / 2 or drop > 90", "pull * 9999 * 9999 / firm");
    }

    private String law(int depth) {
        if (depth == 0 || chance(25)) {
            return chance(40) ? number(0, chance(70) ? 20 : 9999)
                : pick("pull", "firm", "deep", "thick", "up", "down", "drop", "week", "child", "fall", "pull", "drop");
        }
        String left = law(depth - 1);
        String right = law(depth - 1);
        String whole = chance(10) ? "not " + left
            : left + " " + pick("+", "-", "*", "/", "+", "-", "*", "/", "<", "<=", "=", "<>", ">=", ">", "and", "or") + " " + right;
        return chance(93) ? "(" + whole + ")" : whole;
    }

    // calls

    private int aGate() {
        return chance(5) ? from(-1, 5) : below(Math.max(1, model.count(0)));
    }

    private int aWhat(int last) {
        return chance(5) ? from(-1, last + 1) : from(0, last);
    }

    private int ahead() {
        return chance(3) ? pickInt(-1, 521, 520) : below(chance(20) ? 60 : 8);
    }

    private int pickInt(int... of) {
        return of[below(of.length)];
    }

    private int bound(int gate) {
        if (chance(5)) {
            return pickInt(-100000, 100000, -99999, 99999, Integer.MIN_VALUE, Integer.MAX_VALUE);
        }
        int drop = model.sags(gate, 0);
        return (drop == Integer.MIN_VALUE ? 0 : drop) + from(-200, chance(50) ? 400 : 4000);
    }

    private void call() {
        int g = aGate();
        int kind = below(37);
        if (kind < 9) {
            callOfState(kind, g);
        } else if (kind < 18) {
            callAhead(kind, g);
        } else if (kind < 27) {
            callOfMeasures(kind, g);
        } else {
            callOfSwing(kind, g);
        }
    }

    private void callOfState(int kind, int g) {
        int what = aWhat(kind == 0 ? 10 : 7);
        int small = from(-1, 7);
        switch (kind) {
            case 0 -> look(g, what);
            case 1 -> {
                int w = aWhat(2);
                due("works(" + small + "," + w + ")", program.works(small, w), model.works(small, w));
            }
            case 2 -> {
                int week = chance(10) ? pickInt(-1, 0, 1999, 2000) : below(2000);
                due("firm(" + week + ")", program.firm(week), model.firm(week));
            }
            case 3 -> {
                int n = chance(5) ? pickInt(-1, 521, 520, 519) : below(chance(20) ? 100 : 6);
                due("weeks(" + n + ")", program.weeks(n), model.weeks(n));
            }
            case 4 -> due("sags(" + g + "," + what + ")", program.sags(g, what), model.sags(g, what));
            case 5 -> due("latched(" + g + ")", program.latched(g), model.latched(g));
            case 6 -> due("gives(" + g + ")", program.gives(g), model.gives(g));
            case 7 -> due("work(" + g + "," + small + ")", program.work(g, small) ? 1 : 0, model.work(g, small) ? 1 : 0);
            default -> {
                int w = aWhat(2);
                int letters = chance(10) ? random.nextInt() : Model.lettersOf(pick("a", "g", "rot", "wet", "c", "frost", "r", "bo"));
                due("named(" + w + "," + letters + ")", program.named(w, letters), model.named(w, letters));
            }
        }
    }

    private void look(int g, int what) {
        long got;
        long want;
        try {
            got = program.look(g, what);
        } catch (IndexOutOfBoundsException e) {
            got = Long.MAX_VALUE;
        } catch (NoSuchElementException e) {
            got = Long.MAX_VALUE - 1;
        }
        try {
            want = model.look(g, what);
        } catch (IndexOutOfBoundsException e) {
            want = Long.MAX_VALUE;
        } catch (NoSuchElementException e) {
            want = Long.MAX_VALUE - 1;
        }
        due("look(" + g + "," + what + ")", got, want);
    }

    private void callAhead(int kind, int g) {
        int n = ahead();
        int b = bound(g);
        int what = aWhat(1);
        String in = "(" + g + "," + n + "," + b + ")";
        switch (kind) {
            case 9 -> due("undo()", program.undo(), model.undo());
            case 10 -> due("lasts(" + g + "," + b + ")", program.lasts(g, b), model.lasts(g, b));
            case 11 -> due("least" + in + what, program.least(g, n, b, what), model.least(g, n, b, what));
            case 12 -> due("way" + in, program.way(g, n), model.way(g, n));
            case 13 -> {
                int lean = chance(80) ? Math.max(-1, model.sags(g, 1)) + from(-5, 200) : b;
                due("enough" + in + lean, program.enough(g, n, lean), model.enough(g, n, lean));
            }
            case 14 -> due("bears" + in, program.bears(g, n, b), model.bears(g, n, b));
            case 15 -> {
                int fall = chance(10) ? pickInt(-1, 0, 99, 100) : below(100);
                due("knock(" + g + "," + fall + ")", program.knock(g, fall), model.knock(g, fall));
            }
            case 16 -> {
                int t = chance(5) ? pickInt(0, 101, 100) : from(1, 9);
                int w = aWhat(4);
                due("first(" + t + "," + w + ")", program.first(t, w), model.first(t, w));
            }
            default -> {
                int seed = chance(10) ? pickInt(-1, 0, Integer.MAX_VALUE) : random.nextInt(Integer.MAX_VALUE);
                int windy = chance(5) ? pickInt(0, 101, 100) : from(1, 9);
                int w = chance(5) ? pickInt(0, 100, 99) : from(1, 6);
                due("wind" + in + seed + "," + windy + "," + w, program.wind(g, seed, windy, w, b), model.wind(g, seed, windy, w, b));
            }
        }
    }

    private void callOfMeasures(int kind, int g) {
        int what = aWhat(1);
        switch (kind) {
            case 18, 19 -> {
                int week = chance(5) ? pickInt(-1, 2000, 1999) : below(chance(10) ? 300 : 12);
                int of = aWhat(3);
                int low = from(-100, 300);
                int high = chance(3) ? low - 1 : low + from(0, chance(50) ? 3000 : 300);
                if (chance(3)) {
                    low = pickInt(-9999999, -10000000, 9999999, 10000000);
                    high = pickInt(-9999999, 9999999, 10000000);
                }
                due("measure(" + g + "," + week + "," + of + "," + low + "," + high + ")",
                    program.measure(g, week, of, low, high), model.measure(g, week, of, low, high));
            }
            case 20 -> {
                int m = from(-1, model.count(5));
                due("strike(" + m + ")", program.strike(m), model.strike(m));
            }
            case 21 -> {
                int n = chance(40) ? -1 : from(-2, model.count(5) + 1);
                due("known(" + n + ")", program.known(n) ? 1 : 0, model.known(n) ? 1 : 0);
            }
            case 22, 23 -> due("fits(" + g + ")", program.fits(g), model.fits(g));
            case 24, 25 -> {
                int c = from(chance(5) ? -1 : 0, model.count(2) + (chance(5) ? 1 : 0));
                due("odds(" + g + "," + c + "," + what + ")", program.odds(g, c, what), model.odds(g, c, what));
            }
            default -> due("test(" + g + "," + what + ")", program.test(g, what), model.test(g, what));
        }
    }

    private void callOfSwing(int kind, int g) {
        int k = aWhat(8);
        switch (kind) {
            case 27 -> due("low(" + g + "," + k + ")", program.low(g, k), model.low(g, k));
            case 28 -> due("rest(" + g + ")", program.rest(g), model.rest(g));
            case 29 -> due("shuts(" + g + ")", program.shuts(g), model.shuts(g));
            case 30 -> due("above(" + g + "," + k + ")", program.above(g, k), model.above(g, k));
            case 31 -> due("opens(" + g + ")", program.opens(g), model.opens(g));
            case 32 -> {
                int what = aWhat(1);
                due("stand(" + g + "," + k + "," + what + ")", program.stand(g, k, what), model.stand(g, k, what));
            }
            case 33 -> due("keep()", program.keep(), model.keep());
            case 34 -> due("back()", program.back(), model.back());
            case 35 -> due("count(" + k + ")", program.count(k), model.count(k));
            default -> due("fault(" + (k - 4) + ")", program.fault(k - 4), model.fault(k - 4));
        }
    }
}
