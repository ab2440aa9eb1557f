import java.math.BigInteger;
import java.util.ArrayList;
import java.util.HashMap;
import java.util.List;
import java.util.Map;
import java.util.NoSuchElementException;
import java.util.regex.Matcher;
import java.util.regex.Pattern;

/**
 * The document once more, written as plainly as possible and apart from the program (trees, maps, texts), so that
 * random runs can hold the two against each other. It is slow and makes objects freely.
 */
final class Model {
    static final class Fault extends RuntimeException {
        final int kind;
        final int place;
        Fault(int kind, int place) { this.kind = kind; this.place = place; }
    }

    static final class ValueError extends RuntimeException { }

    interface Node { BigInteger value(Map<String, Integer> names); }

    static final class Token {
        final String text;
        final int place;
        Token(String text, int place) { this.text = text; this.place = place; }
        boolean is(String other) { return text.equals(other); }
        boolean word() { return text.matches("[a-z]{1,6}"); }
        boolean number() { return text.matches("[0-9]+"); }
    }

    static final class Work { String name; int cost; String kind; int number; }

    static final class Cause { String name; int weight; String kind; int number; }

    static final class Gate {
        String name;
        int length, height, weight, lower, upper, out, aside, deep = 36, thick = 8;
        int brace, rise = 1000, drop = 1000, child, gap = 3000;
        int[] ground = new int[9];
        int lean, square, hooks, lift, wheel, stones;
        List<Integer> causes = new ArrayList<>();
        List<Integer> done = new ArrayList<>();

        Gate copy() {
            Gate g = new Gate();
            g.name = name; g.length = length; g.height = height; g.weight = weight; g.lower = lower; g.upper = upper;
            g.out = out; g.aside = aside; g.deep = deep; g.thick = thick; g.brace = brace; g.rise = rise;
            g.drop = drop; g.child = child; g.gap = gap; g.ground = ground; g.lean = lean; g.square = square;
            g.hooks = hooks; g.lift = lift; g.wheel = wheel; g.stones = stones;
            g.causes = new ArrayList<>(causes);
            g.done = new ArrayList<>(done);
            return g;
        }

        int span() { return upper - lower; }
        int pull() { return length * (weight + 2 * child) / (2 * span()) * (100 - wheel) / 100; }
        int byLean() { return (int) ((long) lean * length / height); }
        int byHooks() { return (int) ((long) hooks * length / span()); }
        int dropped() { return byLean() + square + byHooks() - lift; }
        boolean latched() { return -rise <= dropped() && dropped() <= drop; }
        int measured(int what) { return new int[] {dropped(), lean, square, hooks}[what]; }
        int low(int angle) {
            int[] c = {1000, 924, 707, 383, 0, -383, -707, -924, -1000};
            int[] s = {0, 383, 707, 924, 1000, 924, 707, 383, 0};
            return (100 * out + lean * span() / height) * c[angle] + 100 * aside * s[angle];
        }
        int above(int angle) {
            BigInteger by = BigInteger.valueOf(low(0)).subtract(BigInteger.valueOf(low(angle)))
                .multiply(BigInteger.valueOf(length)).divide(BigInteger.valueOf(1000L * span()));
            return by.intValueExact() + gap - dropped() - 100 * ground[angle];
        }
        int opens() {
            int k = -1;
            while (k < 8 && above(k + 1) >= 0) k++;
            return k;
        }
        int shuts() {
            int bits = 0;
            for (int k = 0; k < 9; k++) {
                boolean grows = true;
                for (int j = k; j > 0; j--) grows &= low(j - 1) > low(j);
                if (grows) bits |= 1 << k;
            }
            return bits;
        }
    }

    /** A text that was read. */
    static final class Told {
        int[] ground;
        final Map<String, Node> laws = new HashMap<>();
        final List<Gate> gates = new ArrayList<>();
        final List<Work> works = new ArrayList<>();
        final List<Cause> causes = new ArrayList<>();
        int knots;
        int lines;
    }

    static final List<String> LANGUAGE = List.of("ground", "law", "gate", "hooks", "post", "brace", "up", "down", "latch",
        "child", "gap", "rise", "has", "work", "square", "wire", "wheel", "stones", "rehang", "cause", "lean", "open",
        "bend", "knock", "or", "and", "not", "pull", "firm", "deep", "thick", "drop", "week", "fall");
    static final List<String> NAMES = List.of("pull", "firm", "deep", "thick", "up", "down", "drop", "week", "child", "fall");

    static final class Parser {
        final List<Token> tokens = new ArrayList<>();
        final Told told = new Told();
        int at;
        int open;

        Parser(String text) {
            Matcher m = Pattern.compile("[a-z]+|[0-9]+|<=|<>|>=|[;()<>=+*/-]|[\n ]+|.", Pattern.DOTALL).matcher(text);
            while (m.find()) {
                if (!m.group().isBlank() || m.group().matches("[^\n ]+")) tokens.add(new Token(m.group(), m.start()));
            }
            tokens.add(new Token("", text.length()));
        }

        Token now() { return tokens.get(at); }
        Fault fault(int kind) { return new Fault(kind, now().place); }
        boolean accept(String text) { if (now().is(text)) { at++; return true; } return false; }
        void expect(String text) { if (!accept(text)) throw fault(1); }
        String oneOf(String... words) {
            for (String word : words) if (accept(word)) return word;
            throw fault(1);
        }
        int number(int low, int high) {
            if (!now().number()) throw fault(1);
            BigInteger n = new BigInteger(now().text);
            if (n.compareTo(BigInteger.valueOf(low)) < 0 || n.compareTo(BigInteger.valueOf(high)) > 0) throw fault(2);
            at++;
            return n.intValue();
        }
        int offset() { return accept("-") ? -number(0, 30) : number(0, 30); }
        String ownName(List<String> told) {
            if (!now().word() || LANGUAGE.contains(now().text)) throw fault(1);
            if (told.contains(now().text)) throw fault(3);
            return tokens.get(at++).text;
        }

        Told text() {
            while (!now().is("")) {
                line();
                expect(";");
                told.lines++;
            }
            return told;
        }

        void line() {
            if (now().is("ground")) {
                if (told.ground != null) throw fault(3);
                at++;
                told.ground = new int[12];
                for (int i = 0; i < 12; i++) told.ground[i] = number(1, 99);
            } else if (accept("law")) {
                if (told.laws.containsKey(now().text)) throw fault(3);
                String kind = oneOf("lean", "open", "bend", "knock");
                open = 0;
                told.laws.put(kind, or());
            } else if (now().is("gate")) {
                if (told.gates.size() == 4) throw fault(2);
                at++;
                gate();
            } else if (now().is("work")) {
                if (told.works.size() == 6) throw fault(2);
                at++;
                work();
            } else if (now().is("cause")) {
                if (told.causes.size() == 6) throw fault(2);
                at++;
                Cause c = new Cause();
                c.name = ownName(told.causes.stream().map(x -> x.name).toList());
                c.weight = number(1, 99);
                c.kind = oneOf("lean", "open", "bend");
                c.number = number(1, 999);
                told.causes.add(c);
            } else {
                throw fault(1);
            }
        }

        void gate() {
            Gate g = new Gate();
            g.name = ownName(told.gates.stream().map(x -> x.name).toList());
            g.length = number(24, 144);
            g.height = number(24, 72);
            g.weight = number(20, 400);
            g.lower = 6;
            g.upper = g.height - 6;
            List<String> parts = new ArrayList<>();
            while (List.of("hooks", "post", "brace", "latch", "child", "gap", "rise", "has").contains(now().text)) {
                String part = now().text;
                if (!part.equals("has") && parts.contains(part)) throw fault(3);
                parts.add(part);
                at++;
                part(g, part);
            }
            told.gates.add(g);
        }

        void part(Gate g, String part) {
            switch (part) {
                case "hooks" -> {
                    g.lower = number(0, g.height);
                    g.upper = number(g.lower + 1, g.height);
                    g.out = offset();
                    g.aside = offset();
                }
                case "post" -> { g.deep = number(12, 60); g.thick = number(3, 14); }
                case "brace" -> g.brace = oneOf("up", "down").equals("up") ? 1 : 2;
                case "latch" -> { g.rise = number(0, 9999); g.drop = number(0, 9999); }
                case "child" -> g.child = number(0, 200);
                case "gap" -> g.gap = number(0, 9999);
                case "rise" -> { for (int i = 0; i < 9; i++) g.ground[i] = number(0, 200); }
                default -> {
                    if (!now().word() || LANGUAGE.contains(now().text)) throw fault(1);
                    int cause = told.causes.stream().map(x -> x.name).toList().indexOf(now().text);
                    if (cause < 0) throw fault(4);
                    if (g.causes.contains(cause)) throw fault(3);
                    g.causes.add(cause);
                    at++;
                }
            }
        }

        void work() {
            Work w = new Work();
            w.name = ownName(told.works.stream().map(x -> x.name).toList());
            w.cost = number(1, 999);
            w.kind = oneOf("brace", "square", "wire", "wheel", "stones", "post", "rehang");
            Map<String, Integer> most = Map.of("wire", 9999, "wheel", 100, "stones", 99, "post", 60, "rehang", 9999);
            if (most.containsKey(w.kind)) w.number = number(0, most.get(w.kind));
            told.works.add(w);
        }

        void knot() {
            if (told.knots == 64) throw fault(2);
            told.knots++;
        }

        Node or() {
            Node left = and();
            while (now().is("or")) left = join(left, this::and);
            return left;
        }
        Node and() {
            Node left = not();
            while (now().is("and")) left = join(left, this::not);
            return left;
        }
        Node not() {
            if (now().is("not")) {
                knot();
                at++;
                Node inner = not();
                return names -> inner.value(names).signum() == 0 ? BigInteger.ONE : BigInteger.ZERO;
            }
            Node left = sum();
            if (List.of("<", "<=", "=", "<>", ">=", ">").contains(now().text)) left = join(left, this::sum);
            return left;
        }
        Node sum() {
            Node left = product();
            while (now().is("+") || now().is("-")) left = join(left, this::product);
            return left;
        }
        Node product() {
            Node left = atom();
            while (now().is("*") || now().is("/")) left = join(left, this::atom);
            return left;
        }
        Node atom() {
            if (now().is("(")) {
                if (open == 8) throw fault(2);
                open++;
                at++;
                Node inner = or();
                expect(")");
                open--;
                return inner;
            }
            if (now().number()) {
                knot();
                int n = number(0, 9999);
                return names -> BigInteger.valueOf(n);
            }
            if (NAMES.contains(now().text)) {
                knot();
                String name = tokens.get(at++).text;
                return names -> BigInteger.valueOf(names.get(name));
            }
            throw fault(1);
        }

        interface Rule { Node read(); }

        Node join(Node left, Rule rule) {
            knot();
            String sign = tokens.get(at++).text;
            Node right = rule.read();
            return names -> checked(combine(sign, left.value(names), right.value(names)));
        }

        static BigInteger combine(String sign, BigInteger a, BigInteger b) {
            boolean truth;
            switch (sign) {
                case "+": return a.add(b);
                case "-": return a.subtract(b);
                case "*": return a.multiply(b);
                case "/":
                    if (b.signum() == 0) throw new ValueError();
                    return a.divide(b);
                case "<": truth = a.compareTo(b) < 0; break;
                case "<=": truth = a.compareTo(b) <= 0; break;
                case "=": truth = a.compareTo(b) == 0; break;
                case "<>": truth = a.compareTo(b) != 0; break;
                case ">=": truth = a.compareTo(b) >= 0; break;
                case ">": truth = a.compareTo(b) > 0; break;
                case "and": truth = a.signum() != 0 && b.signum() != 0; break;
                default: truth = a.signum() != 0 || b.signum() != 0; break;
            }
            return truth ? BigInteger.ONE : BigInteger.ZERO;
        }

        static BigInteger checked(BigInteger value) {
            if (value.abs().compareTo(BigInteger.TEN.pow(12)) > 0) throw new ValueError();
            return value;
        }
    }

    private final StringBuilder tape = new StringBuilder();
    private Told told = new Told();
    private List<Gate> gates = new ArrayList<>();
    private int next;
    private int fault;
    private int place = -1;
    private final List<Object[]> undo = new ArrayList<>();
    private List<Gate> imageGates;
    private int imageNext;
    private final List<int[]> measures = new ArrayList<>();
    private int known = -1;

    int feed(int... numbers) {
        if (tape.length() + 20 > 900) return -1;
        for (int n : numbers) {
            for (int k = 3; k >= 0; k--) tape.append((char) (n >> 8 * k & 255));
        }
        return tape.length();
    }

    int text(int n) {
        if (n < 0 || n > tape.length()) return -2;
        String text = tape.substring(0, n);
        tape.setLength(0);
        fault = 0;
        place = -1;
        try {
            told = new Parser(text).text();
        } catch (Fault f) {
            fault = f.kind;
            place = f.place;
            return -1;
        }
        gates = new ArrayList<>();
        for (Gate g : told.gates) gates.add(g.copy());
        next = 0;
        undo.clear();
        imageGates = null;
        measures.clear();
        known = -1;
        return told.lines;
    }

    int fault(int what) { return what == 0 ? fault : what == 1 ? place : -1; }

    int named(int what, int letters) {
        List<String> names = what == 0 ? told.gates.stream().map(g -> g.name).toList()
            : what == 1 ? told.works.stream().map(w -> w.name).toList()
            : what == 2 ? told.causes.stream().map(c -> c.name).toList() : List.of();
        for (int i = 0; i < names.size(); i++) {
            if (lettersOf(names.get(i)) == letters) return i;
        }
        return -1;
    }

    static int lettersOf(String name) {
        int letters = 0;
        for (int i = 0; i < 6; i++) letters = letters * 32 + (i < name.length() ? name.charAt(i) - 96 : 0);
        return letters;
    }

    private boolean no(int gate) { return gate < 0 || gate >= gates.size(); }
    private static boolean out(int n, int low, int high) { return n < low || n > high; }
    private static boolean noBound(int bound) { return out(bound, -99999, 99999); }
    private static int bits(List<Integer> set) { int b = 0; for (int i : set) b |= 1 << i; return b; }

    int look(int gate, int what) {
        if (no(gate)) throw new IndexOutOfBoundsException();
        if (out(what, 0, 10)) throw new NoSuchElementException();
        Gate g = gates.get(gate);
        return new int[] {g.length, g.height, g.weight, g.span(), g.pull(), g.deep, g.thick, g.brace, g.child,
            bits(g.done), bits(g.causes)}[what];
    }

    int works(int work, int what) {
        if (out(work, 0, told.works.size() - 1) || out(what, 0, 2)) return -1;
        Work w = told.works.get(work);
        int kind = List.of("brace", "square", "wire", "wheel", "stones", "post", "rehang").indexOf(w.kind);
        return new int[] {w.cost, kind, w.number}[what];
    }

    private int firmIn(int week) { return told.ground == null ? 50 : told.ground[week * 12 / 52 % 12]; }

    int firm(int week) { return out(week, 0, 1999) ? -1 : firmIn(week); }

    private BigInteger law(String kind, Gate g, int week, int fall) {
        Map<String, Integer> names = new HashMap<>();
        names.put("pull", g.pull());
        names.put("firm", firmIn(week) + g.stones);
        names.put("deep", g.deep);
        names.put("thick", g.thick);
        names.put("up", g.brace == 1 ? 1 : 0);
        names.put("down", g.brace == 2 ? 1 : 0);
        names.put("drop", g.dropped());
        names.put("week", week);
        names.put("child", g.child);
        names.put("fall", fall);
        return told.laws.get(kind).value(names);
    }

    private int growth(String kind, Gate g, int week) {
        int growth = 0;
        if (told.laws.containsKey(kind)) {
            try {
                growth = law(kind, g, week, 0).max(BigInteger.ZERO).min(BigInteger.valueOf(9999)).intValue();
            } catch (ValueError e) {
                growth = 0;
            }
        }
        for (int c : g.causes) if (told.causes.get(c).kind.equals(kind)) growth += told.causes.get(c).number;
        return growth;
    }

    private void week(Gate g, int week) {
        int lean = growth("lean", g, week);
        int square = growth("open", g, week);
        int hooks = growth("bend", g, week);
        g.lean = Math.min(1000000, g.lean + lean);
        g.square = Math.min(1000000, g.square + square);
        g.hooks = Math.min(1000000, g.hooks + hooks);
    }

    private Gate later(Gate g, int n) {
        for (int i = 0; i < n; i++) week(g, next + i);
        return g;
    }

    int weeks(int n) {
        if (out(n, 0, 520) || next + n > 2000) return -1;
        for (Gate g : gates) later(g, n);
        return next += n;
    }

    int sags(int gate, int what) {
        if (no(gate) || out(what, 0, 7)) return Integer.MIN_VALUE;
        Gate g = gates.get(gate);
        return new int[] {g.dropped(), g.lean, g.square, g.hooks, g.lift, g.byLean(), g.square, g.byHooks()}[what];
    }

    int latched(int gate) { return no(gate) ? -1 : gates.get(gate).latched() ? 1 : 0; }

    int gives(int gate) {
        if (no(gate)) return -1;
        Gate g = gates.get(gate);
        int[] parts = {g.byLean(), g.square, g.byHooks()};
        int most = 0;
        for (int i = 1; i < 3; i++) if (parts[i] > parts[most]) most = i;
        return most;
    }

    private void perform(Gate g, int work) {
        Work w = told.works.get(work);
        g.done.add(work);
        switch (w.kind) {
            case "brace" -> g.brace = 1;
            case "square" -> g.square = 0;
            case "wire" -> g.lift += w.number;
            case "wheel" -> g.wheel = w.number;
            case "stones" -> g.stones += w.number;
            case "post" -> { g.lean = 0; g.deep += w.number; }
            default -> { g.hooks = 0; g.lift += w.number; }
        }
    }

    boolean work(int gate, int work) {
        if (no(gate) || out(work, 0, told.works.size() - 1) || gates.get(gate).done.contains(work)) return false;
        undo.add(new Object[] {gate, gates.get(gate).copy()});
        if (undo.size() > 20) undo.remove(0);
        perform(gates.get(gate), work);
        return true;
    }

    int undo() {
        if (undo.isEmpty()) return -1;
        Object[] latest = undo.remove(undo.size() - 1);
        gates.set((Integer) latest[0], (Gate) latest[1]);
        return undo.size();
    }

    int lasts(int gate, int bound) {
        if (no(gate) || noBound(bound)) return -1;
        Gate g = gates.get(gate).copy();
        for (int k = 1; k <= 1000; k++) {
            week(g, next + k - 1);
            if (g.dropped() > bound) return k;
        }
        return 0;
    }

    int least(int gate, int n, int bound, int what) {
        if (no(gate) || out(n, 0, 520) || noBound(bound) || out(what, 0, 1)) return -1;
        int best = -2;
        int bestCost = -2;
        for (int set = (1 << told.works.size()) - 1; set >= 0; set--) {
            if ((set & bits(gates.get(gate).done)) != 0) continue;
            Gate g = gates.get(gate).copy();
            int cost = 0;
            for (int w = 0; w < told.works.size(); w++) {
                if ((set >> w & 1) == 1) {
                    perform(g, w);
                    cost += told.works.get(w).cost;
                }
            }
            if (later(g, n).dropped() <= bound && (best == -2 || cost <= bestCost)) {
                best = set;
                bestCost = cost;
            }
        }
        return what == 0 ? bestCost : best;
    }

    int way(int gate, int n) {
        if (no(gate) || out(n, 0, 520)) return Integer.MIN_VALUE;
        Gate up = gates.get(gate).copy();
        Gate down = gates.get(gate).copy();
        up.brace = 1;
        down.brace = 2;
        return later(up, n).dropped() - later(down, n).dropped();
    }

    int enough(int gate, int n, int bound) {
        if (no(gate) || out(n, 0, 520) || noBound(bound)) return -1;
        for (int deep = 12; deep <= 60; deep++) {
            Gate g = gates.get(gate).copy();
            g.deep = deep;
            if (later(g, n).lean <= bound) return deep;
        }
        return -2;
    }

    int bears(int gate, int n, int bound) {
        if (no(gate) || out(n, 0, 520) || noBound(bound)) return -1;
        for (int child = 200; child >= 0; child--) {
            Gate g = gates.get(gate).copy();
            g.child = child;
            if (later(g, n).dropped() <= bound) return child;
        }
        return -2;
    }

    long knock(int gate, int fall) {
        if (no(gate) || out(fall, 0, 99) || !told.laws.containsKey("knock")) return Long.MIN_VALUE;
        try {
            return law("knock", gates.get(gate), next, fall).longValueExact();
        } catch (ValueError e) {
            return Long.MIN_VALUE;
        }
    }

    int measure(int gate, int week, int what, int low, int high) {
        if (no(gate) || out(week, 0, 1999) || out(what, 0, 3) || measures.size() == 40) return -1;
        if (out(low, -9999999, 9999999) || high < low || high > 9999999) return -1;
        measures.add(new int[] {gate, week, what, low, high});
        return measures.size() - 1;
    }

    int strike(int measure) {
        if (out(measure, 0, measures.size() - 1) || measures.size() == 40) return -1;
        measures.add(new int[] {measure});
        return measures.size() - 1;
    }

    boolean known(int n) {
        if (out(n, -1, measures.size())) return false;
        known = n;
        return true;
    }

    private boolean struck(int number, int by) {
        for (int i = number + 1; i < by; i++) {
            if (measures.get(i).length == 1 && measures.get(i)[0] == number && !struck(i, by)) return true;
        }
        return false;
    }

    private Gate run(int gate, int cause, int weeks) {
        Gate g = told.gates.get(gate).copy();
        g.causes.clear();
        if (cause < told.causes.size()) g.causes.add(cause);
        for (int w = 0; w < weeks; w++) week(g, w);
        return g;
    }

    int fits(int gate) {
        if (no(gate)) return -1;
        int by = known < 0 ? measures.size() : known;
        int fits = 0;
        for (int c = 0; c <= told.causes.size(); c++) {
            boolean all = true;
            for (int m = 0; m < by; m++) {
                int[] it = measures.get(m);
                if (it.length == 1 || it[0] != gate || struck(m, by)) continue;
                int value = run(gate, c, it[1] + 1).measured(it[2]);
                all &= it[3] <= value && value <= it[4];
            }
            if (all) fits |= 1 << c;
        }
        return fits;
    }

    private int weight(int cause) { return cause < told.causes.size() ? told.causes.get(cause).weight : 1; }

    int odds(int gate, int cause, int what) {
        if (no(gate) || out(cause, 0, told.causes.size()) || out(what, 0, 1)) return -1;
        int fits = fits(gate);
        if (fits == 0) return 0;
        if ((fits >> cause & 1) == 0) return what == 0 ? 0 : 1;
        int all = 0;
        for (int c = 0; c <= told.causes.size(); c++) if ((fits >> c & 1) == 1) all += weight(c);
        return what == 0 ? weight(cause) : all;
    }

    int test(int gate, int what) {
        if (no(gate) || out(what, 0, 1)) return -1;
        int fits = fits(gate);
        if (Integer.bitCount(fits) < 2) return -1;
        int best = -1;
        int bestWeight = Integer.MAX_VALUE;
        for (int m = 0; m < 4; m++) {
            Map<Integer, Integer> groups = new HashMap<>();
            for (int c = 0; c <= told.causes.size(); c++) {
                if ((fits >> c & 1) == 1) groups.merge(run(gate, c, next).measured(m), weight(c), Integer::sum);
            }
            int heaviest = groups.values().stream().max(Integer::compare).orElseThrow();
            if (heaviest < bestWeight) {
                best = m;
                bestWeight = heaviest;
            }
        }
        return what == 0 ? best : bestWeight;
    }

    int low(int gate, int angle) {
        return no(gate) || out(angle, 0, 8) ? Integer.MIN_VALUE : gates.get(gate).low(angle);
    }

    int rest(int gate) {
        if (no(gate)) return -1;
        int best = 8;
        for (int k = 7; k >= 0; k--) if (gates.get(gate).low(k) >= gates.get(gate).low(best)) best = k;
        return best;
    }

    int shuts(int gate) { return no(gate) ? -1 : gates.get(gate).shuts(); }

    int above(int gate, int angle) {
        return no(gate) || out(angle, 0, 8) ? Integer.MIN_VALUE : gates.get(gate).above(angle);
    }

    int opens(int gate) { return no(gate) ? -2 : gates.get(gate).opens(); }

    int stand(int gate, int angle, int what) {
        if (no(gate) || out(angle, 0, 8) || out(what, 0, 1)) return Integer.MIN_VALUE;
        Gate g = gates.get(gate).copy();
        int[] best = null;
        for (int o = -30; o <= 30; o++) {
            for (int a = -30; a <= 30; a++) {
                g.out = o;
                g.aside = a;
                int sum = Math.abs(o) + Math.abs(a);
                int all = (1 << angle + 1) - 1;
                if (best != null && sum >= best[2]) continue;
                if (g.opens() >= angle && (g.shuts() & all) == all) best = new int[] {o, a, sum};
            }
        }
        return best == null ? Integer.MIN_VALUE : best[what];
    }

    int first(int t, int what) {
        if (gates.isEmpty() || out(t, 1, 100) || out(what, 0, gates.size())) return -1;
        List<List<Integer>> orders = new ArrayList<>();
        permute(new ArrayList<>(), orders);
        int bestSum = Integer.MAX_VALUE;
        List<Integer> best = null;
        for (List<Integer> order : orders) {
            List<Gate> all = new ArrayList<>();
            for (Gate g : gates) all.add(g.copy());
            int sum = 0;
            for (int w = 0; w < t * gates.size(); w++) {
                if (w % t == 0) {
                    Gate good = all.get(order.get(w / t));
                    good.lift = 0;
                    good.lift = good.dropped();
                }
                for (Gate g : all) {
                    week(g, next + w);
                    if (!g.latched()) sum++;
                }
            }
            if (sum < bestSum) {
                bestSum = sum;
                best = order;
            }
        }
        return what == 0 ? bestSum : best.get(what - 1);
    }

    private void permute(List<Integer> begun, List<List<Integer>> orders) {
        if (begun.size() == gates.size()) orders.add(new ArrayList<>(begun));
        for (int g = 0; g < gates.size(); g++) {
            if (begun.contains(g)) continue;
            begun.add(g);
            permute(begun, orders);
            begun.remove(begun.size() - 1);
        }
    }

    int wind(int gate, int seed, int n, int w, int bound) {
        if (no(gate) || seed < 0 || out(n, 1, 100) || out(w, 1, 99) || noBound(bound)) return -1;
        BigInteger last = BigInteger.valueOf(seed);
        int many = 0;
        for (int draw = 0; draw < 10; draw++) {
            Gate g = gates.get(gate).copy();
            for (int k = 0; k < n; k++) {
                last = last.multiply(BigInteger.valueOf(1103515245)).add(BigInteger.valueOf(12345))
                    .mod(BigInteger.TWO.pow(31));
                boolean blows = last.intValue() / 65536 % w == 0;
                if (blows) g.child += 100;
                week(g, next + k);
                if (blows) g.child -= 100;
            }
            if (g.dropped() > bound) many++;
        }
        return many;
    }

    int keep() {
        imageGates = new ArrayList<>();
        for (Gate g : gates) imageGates.add(g.copy());
        return imageNext = next;
    }

    int back() {
        if (imageGates == null) return -1;
        gates = new ArrayList<>();
        for (Gate g : imageGates) gates.add(g.copy());
        undo.clear();
        return next = imageNext;
    }

    int count(int what) {
        int cost = 0;
        for (Gate g : gates) for (int w : g.done) cost += told.works.get(w).cost;
        if (out(what, 0, 8)) return -1;
        return new int[] {gates.size(), told.works.size(), told.causes.size(), told.knots, next, measures.size(),
            known < 0 ? measures.size() : known, undo.size(), cost}[what];
    }
}
