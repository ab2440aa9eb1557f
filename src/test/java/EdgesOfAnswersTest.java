/** Boundary cases of weeks to come, measures and causes, hooks and angles, turns and wind (==== 3, ==== 4; promises 15 to 34). */
public final class EdgesOfAnswersTest {
    private static final int[] COSINES = {1000, 924, 707, 383, 0, -383, -707, -924, -1000};
    private static final int[] SINES = {0, 383, 707, 924, 1000, 924, 707, 383, 0};
    private static final int[] NO_GATES = {-1, 1, 2, 3, 4, Edges.MAX, Edges.MIN};
    private static final int[] NO_BOUNDS = {-100000, 100000, Edges.MAX, Edges.MIN};
    private static final int[] NO_WEEKS = {-1, 521, Edges.MAX, Edges.MIN};
    private static final int[] NO_ANGLES = {-1, 9, Edges.MAX, Edges.MIN};
    private static final int[] NO_WHATS = {-1, 2, Edges.MAX, Edges.MIN};

    public static void main(String[] args) {
        withoutGates();
        lasts();
        lastsBeyond();
        leastAtBounds();
        leastOfSeveral();
        leastWrong();
        way();
        enough();
        bears();
        beyondTheLastWeek();
        gatesBesideOneAnother();
        measure();
        measuredAtEnds();
        measuredWeeks();
        strike();
        struck();
        known();
        knownByNumbers();
        fits();
        odds();
        test();
        testAheadOfWeekNought();
        low();
        rest();
        shuts();
        above();
        opens();
        stand();
        standAtTheEnds();
        first();
        firstOfSeveral();
        wind();
        windAtTheEnds();
        manyCalls();
        Edges.end("edges of answers");
    }

    private static void withoutGates() {
        Edges.says("no such GATE: calls without any gate");
        SagGates x = new SagGates();
        for (int gate : new int[] {0, -1, 1, Edges.MAX, Edges.MIN}) {
            Edges.due("look", Edges.looked(x, gate, 0), Edges.NO_GATE);
            Edges.due("sags", x.sags(gate, 0), Edges.MIN);
            Edges.due("latched", x.latched(gate), -1);
            Edges.due("gives", x.gives(gate), -1);
            Edges.no("work", x.work(gate, 0));
            Edges.due("lasts", x.lasts(gate, 0), -1);
            Edges.due("least", x.least(gate, 0, 0, 0), -1);
            Edges.due("way", x.way(gate, 0), Edges.MIN);
            Edges.due("enough", x.enough(gate, 0, 0), -1);
            Edges.due("bears", x.bears(gate, 0, 0), -1);
            Edges.due("knock", x.knock(gate, 0), Long.MIN_VALUE);
            Edges.due("measure", x.measure(gate, 0, 0, 0, 0), -1);
            Edges.due("fits", x.fits(gate), -1);
            Edges.due("odds", x.odds(gate, 0, 0), -1);
            Edges.due("test", x.test(gate, 0), -1);
            Edges.due("low", x.low(gate, 0), Edges.MIN);
            Edges.due("rest", x.rest(gate), -1);
            Edges.due("shuts", x.shuts(gate), -1);
            Edges.due("above", x.above(gate, 0), Edges.MIN);
            Edges.due("opens", x.opens(gate), -2);
            Edges.due("stand", x.stand(gate, 0, 0), Edges.MIN);
            Edges.due("wind", x.wind(gate, 0, 1, 1, 0), -1);
        }
        Edges.due("first", x.first(1, 0), -1);
        Edges.due("strike", x.strike(0), -1);
        Edges.yes("known(0)", x.known(0));
        Edges.no("known(1)", x.known(1));
        Edges.due("undo", x.undo(), -1);
        Edges.due("back", x.back(), -1);
        Edges.due("weeks", x.weeks(520), 520);
    }

    private static void lasts() {
        Edges.says("Promise 15: LASTS (a bound -99999 .. 99999), how many WEEKS go by till then (1 .. 1000); 0: it never is; NONE: no such ones.");
        SagGates x = Edges.told("law open 10;" + Edges.GATE + "work a 1 wire 9999;work b 1 wire 1;");
        Edges.due("bound -99999", x.lasts(0, -99999), 1);
        Edges.due("bound -1", x.lasts(0, -1), 1);
        Edges.due("bound 0", x.lasts(0, 0), 1);
        Edges.due("bound 9", x.lasts(0, 9), 1);
        Edges.due("at a bound is not above it", x.lasts(0, 10), 2);
        Edges.due("bound 9989", x.lasts(0, 9989), 999);
        Edges.due("bound 9990", x.lasts(0, 9990), 1000);
        Edges.due("bound 9999", x.lasts(0, 9999), 1000);
        Edges.due("bound 10000", x.lasts(0, 10000), 0);
        Edges.due("bound 99999", x.lasts(0, 99999), 0);
        for (int bound : NO_BOUNDS) {
            Edges.due("bound " + bound, x.lasts(0, bound), -1);
        }
        for (int gate : NO_GATES) {
            Edges.due("gate " + gate, x.lasts(gate, 0), -1);
        }
        Edges.due("no week went by", x.count(4), 0);
        Edges.due("it has not dropped", x.sags(0, 0), 0);
        SagGates y = Edges.told("law open 9999;" + Edges.GATE);
        Edges.due("above 99999", y.lasts(0, 99999), 11);
        Edges.due("above 99990", y.lasts(0, 99990), 11);
        Edges.due("above 99989", y.lasts(0, 99989), 10);
        Edges.due("above 89991", y.lasts(0, 89991), 10);
        Edges.due("above 89990", y.lasts(0, 89990), 9);
        SagGates z = Edges.told(Edges.GATE + "work a 1 wire 9999;");
        Edges.due("never above 0", z.lasts(0, 0), 0);
        Edges.due("always above -1", z.lasts(0, -1), 1);
        z.work(0, 0);
        Edges.due("risen: never above -9999", z.lasts(0, -9999), 0);
        Edges.due("risen: above -10000", z.lasts(0, -10000), 1);
    }

    private static void lastsBeyond() {
        Edges.says("LASTS: the first of 1000 WEEKS to come at whose end DROP is above a bound");
        SagGates x = Edges.told("law open week >= 520;" + Edges.GATE);
        Edges.due("week 520 goes by as the 521st", x.lasts(0, 0), 521);
        x.weeks(520);
        Edges.due("from now on", x.lasts(0, 0), 1);
        SagGates y = Edges.told("law open week = 999;" + Edges.GATE + "gate b 24 24 20;");
        Edges.due("the thousandth", y.lasts(0, 0), 1000);
        SagGates z = Edges.told("law open week = 1000;" + Edges.GATE);
        Edges.due("the one behind the thousandth", z.lasts(0, 0), 0);
        z.weeks(1);
        Edges.due("the thousandth from week 1 on", z.lasts(0, 0), 1000);
    }

    private static final String LEAST = "law open 10 - 5 * up;gate a 24 24 20;work w 5 wire 30;work b 3 brace;work s 2 square;work v 5 wire 30;";

    private static void leastAtBounds() {
        Edges.says("LEAST: of all sets of WORKS not yet done on it, done now by their numbers, behind which n WEEKS later DROP is a bound at most");
        SagGates x = Edges.told(LEAST);
        x.weeks(4);
        Edges.due("none is needed at the bound", x.least(0, 2, 60, 0), 0);
        Edges.due("none is needed: bits", x.least(0, 2, 60, 1), 0);
        Edges.due("one beyond the bound", x.least(0, 2, 59, 0), 2);
        Edges.due("one beyond the bound: bits", x.least(0, 2, 59, 1), 4);
        Edges.due("all", x.least(0, 2, -50, 0), 15);
        Edges.due("all: bits", x.least(0, 2, -50, 1), 15);
        Edges.due("no set", x.least(0, 2, -51, 0), -2);
        Edges.due("no set: bits", x.least(0, 2, -51, 1), -2);
        Edges.due("n 0, none", x.least(0, 0, 40, 1), 0);
        Edges.due("n 0, square", x.least(0, 0, 39, 1), 4);
        Edges.due("n 0, all lifts", x.least(0, 0, -60, 1), 13);
        Edges.due("n 520, none", x.least(0, 520, 5240, 1), 0);
        Edges.due("n 520, square", x.least(0, 520, 5239, 1), 4);
        Edges.due("n 520, square alone at its bound", x.least(0, 520, 5200, 1), 4);
        Edges.due("n 520, brace", x.least(0, 520, 5199, 1), 2);
        Edges.due("bound 99999", x.least(0, 520, 99999, 1), 0);
        Edges.due("bound -99999", x.least(0, 0, -99999, 0), -2);
        Edges.due("nothing was done", x.look(0, 9), 0);
        Edges.due("nothing went by", x.sags(0, 2), 40);
        x.work(0, 2);
        Edges.due("square is done: brace", x.least(0, 2, 19, 1), 2);
        Edges.due("square is done: none", x.least(0, 2, 20, 1), 0);
        x.work(0, 0);
        x.work(0, 1);
        x.work(0, 3);
        Edges.due("all are done: none", x.least(0, 2, -50, 0), 0);
        Edges.due("all are done: no set", x.least(0, 2, -51, 0), -2);
        SagGates y = Edges.told("law open 1;" + Edges.GATE);
        Edges.due("no works: none", y.least(0, 5, 5, 0), 0);
        Edges.due("no works: no set", y.least(0, 5, 4, 1), -2);
        SagGates z = Edges.told("law open pull;gate a 24 24 20;work a 1 wheel 100;work b 2 wheel 0;work c 4 wire 1;");
        Edges.due("by their numbers: a wheel of 0 behind one of 100", z.least(0, 1, 0, 1), 1);
        Edges.due("by their numbers, and a wire", z.least(0, 1, -1, 1), 5);
        SagGates w = Edges.told("law open pull;gate a 24 24 20;work a 1 wheel 0;work b 2 wheel 100;work c 4 wire 1;");
        w.work(0, 1);
        Edges.due("not yet done: the later wheel would be worse", w.least(0, 1, 0, 1), 0);
    }

    private static void leastOfSeveral() {
        Edges.says("that of the least COST, of several the least bits");
        SagGates x = Edges.told(Edges.GATE + "work a 3 wire 3;work b 2 wire 2;work c 1 wire 1;work d 3 wire 3;work e 999 wire 9999;work f 998 wire 9999;");
        Edges.due("3: cost", x.least(0, 0, -3, 0), 3);
        Edges.due("3: a or b and c or d", x.least(0, 0, -3, 1), 1);
        Edges.due("1", x.least(0, 0, -1, 1), 4);
        Edges.due("2", x.least(0, 0, -2, 1), 2);
        Edges.due("4", x.least(0, 0, -4, 1), 5);
        Edges.due("5", x.least(0, 0, -5, 1), 3);
        Edges.due("6: a, b, c or a, d", x.least(0, 0, -6, 1), 7);
        Edges.due("9", x.least(0, 0, -9, 1), 15);
        Edges.due("10: the cheaper of two", x.least(0, 0, -10, 1), 32);
        Edges.due("10: cost", x.least(0, 0, -10, 0), 998);
        Edges.due("all", x.least(0, 0, -20007, 1), 63);
        Edges.due("all: cost", x.least(0, 0, -20007, 0), 9 + 999 + 998);
        Edges.due("no set", x.least(0, 0, -20008, 1), -2);
    }

    private static void leastWrong() {
        Edges.says("Promise 16: LEAST (n 0 .. 520), what 0: COST, 1: WORKS (bits). -2: no set does; NONE: no such ones.");
        SagGates x = Edges.told(LEAST);
        for (int n : NO_WEEKS) {
            Edges.due("n " + n, x.least(0, n, 0, 0), -1);
            Edges.due("n " + n + ", no set", x.least(0, n, -99999, 0), -1);
        }
        for (int bound : NO_BOUNDS) {
            Edges.due("bound " + bound, x.least(0, 0, bound, 0), -1);
        }
        for (int what : NO_WHATS) {
            Edges.due("what " + what, x.least(0, 0, 0, what), -1);
            Edges.due("what " + what + ", no set", x.least(0, 0, -99999, what), -1);
        }
        for (int gate : NO_GATES) {
            Edges.due("gate " + gate, x.least(gate, 0, 0, 0), -1);
        }
    }

    private static void way() {
        Edges.says("WAY: DROP n WEEKS later with a brace up, less that with one down; Promise 17: (n 0 .. 520); Integer.MIN_VALUE: no such ones.");
        SagGates x = Edges.told("law open 10 - 4 * up + 3 * down;gate a 24 24 20 brace down;");
        Edges.due("n 0", x.way(0, 0), 0);
        Edges.due("n 1", x.way(0, 1), -7);
        Edges.due("n 520", x.way(0, 520), -3640);
        for (int n : NO_WEEKS) {
            Edges.due("n " + n, x.way(0, n), Edges.MIN);
        }
        for (int gate : NO_GATES) {
            Edges.due("gate " + gate, x.way(gate, 0), Edges.MIN);
        }
        Edges.due("its brace stays", x.look(0, 7), 2);
        Edges.due("above 0", Edges.told("law open up;" + Edges.GATE).way(0, 520), 520);
        Edges.due("alike", Edges.told("law open up + down;" + Edges.GATE).way(0, 520), 0);
        SagGates y = Edges.told("law bend 9999 * down;gate b 144 24 20 hooks 23 24 0 0;");
        Edges.due("the furthest", y.way(0, 101), -144000000);
    }

    private static void enough() {
        Edges.says("ENOUGH: the least DEEP 12 .. 60 with which LEAN n WEEKS later is a bound at most; Promise 18: -2: not even 60; NONE: no such ones.");
        SagGates x = Edges.told("law lean 61 - deep;law open 9;gate a 24 24 20 post 20 8;work p 1 post 60;");
        Edges.due("12 just does", x.enough(0, 1, 49), 12);
        Edges.due("12 does not", x.enough(0, 1, 48), 13);
        Edges.due("60 just does", x.enough(0, 1, 1), 60);
        Edges.due("not even 60", x.enough(0, 1, 0), -2);
        Edges.due("n 0", x.enough(0, 0, 0), 12);
        Edges.due("n 0, below 0", x.enough(0, 0, -1), -2);
        Edges.due("n 520, 60 just does", x.enough(0, 520, 520), 60);
        Edges.due("n 520, not even 60", x.enough(0, 520, 519), -2);
        Edges.due("n 520, 12 just does", x.enough(0, 520, 25480), 12);
        Edges.due("bound 99999", x.enough(0, 520, 99999), 12);
        Edges.due("bound -99999", x.enough(0, 520, -99999), -2);
        for (int n : NO_WEEKS) {
            Edges.due("n " + n, x.enough(0, n, 0), -1);
        }
        for (int bound : NO_BOUNDS) {
            Edges.due("bound " + bound, x.enough(0, 0, bound), -1);
        }
        for (int gate : NO_GATES) {
            Edges.due("gate " + gate, x.enough(gate, 0, 0), -1);
        }
        Edges.due("its own stays", x.look(0, 5), 20);
        x.work(0, 0);
        Edges.due("as if it were so, whatever it is", x.enough(0, 1, 49), 12);
        SagGates y = Edges.told("law lean deep;" + Edges.GATE);
        Edges.due("the deeper the worse", y.enough(0, 1, 12), 12);
        Edges.due("the deeper the worse, beyond", y.enough(0, 1, 11), -2);
        SagGates z = Edges.told("law lean 5 * (deep <> 59);" + Edges.GATE);
        Edges.due("one alone", z.enough(0, 1, 4), 59);
        SagGates w = Edges.told("law open drop + 60 - deep;law lean drop;" + Edges.GATE);
        Edges.due("by way of drop", w.enough(0, 2, 0), 60);
        Edges.due("by way of drop", w.enough(0, 2, 2), 58);
        SagGates bent = Edges.told("law bend 60 - deep;law lean drop;" + Edges.GATE);
        Edges.due("by way of hooks", bent.enough(0, 2, 1), 60);
        Edges.due("by way of hooks", bent.enough(0, 2, 2), 59);
        SagGates v = Edges.told("law lean 7;" + Edges.GATE);
        Edges.due("deep is none of the law", v.enough(0, 3, 21), 12);
        Edges.due("deep is none of the law, beyond", v.enough(0, 3, 20), -2);
    }

    private static void bears() {
        Edges.says("BEARS: the heaviest child 0 .. 200 with which DROP n WEEKS later is a bound at most; Promise 19: -2: not even 0; NONE: no such ones.");
        SagGates x = Edges.told("law open child + 1;gate a 24 24 20 child 50;work w 1 wire 9999;");
        Edges.due("200 just does", x.bears(0, 1, 201), 200);
        Edges.due("200 does not", x.bears(0, 1, 200), 199);
        Edges.due("0 just does", x.bears(0, 1, 1), 0);
        Edges.due("not even 0", x.bears(0, 1, 0), -2);
        Edges.due("n 0", x.bears(0, 0, 0), 200);
        Edges.due("n 0, below 0", x.bears(0, 0, -1), -2);
        Edges.due("n 520, 0 just does", x.bears(0, 520, 1039), 0);
        Edges.due("n 520, 1 just does", x.bears(0, 520, 1040), 1);
        Edges.due("n 520, not even 0", x.bears(0, 520, 519), -2);
        Edges.due("bound 99999", x.bears(0, 520, 99999), 191);
        Edges.due("bound -99999", x.bears(0, 520, -99999), -2);
        for (int n : NO_WEEKS) {
            Edges.due("n " + n, x.bears(0, n, 0), -1);
        }
        for (int bound : NO_BOUNDS) {
            Edges.due("bound " + bound, x.bears(0, 0, bound), -1);
        }
        for (int gate : NO_GATES) {
            Edges.due("gate " + gate, x.bears(gate, 0, 0), -1);
        }
        Edges.due("its own stays", x.look(0, 8), 50);
        x.work(0, 0);
        Edges.due("a bound below 0", x.bears(0, 1, -9900), 98);
        SagGates y = Edges.told("law open 200 - child;" + Edges.GATE);
        Edges.due("the heavier the better", y.bears(0, 1, 0), 200);
        SagGates z = Edges.told("law open 5 * (child <> 1);" + Edges.GATE);
        Edges.due("one alone", z.bears(0, 1, 4), 1);
        SagGates w = Edges.told("law open pull;gate a 24 24 20;gate b 24 72 20 hooks 0 72 0 0;work w 1 wheel 100;");
        Edges.due("by pull", w.bears(0, 1, 20), 0);
        Edges.due("by pull, beyond", w.bears(0, 1, 19), -2);
        Edges.due("by pull, all", w.bears(0, 1, 420), 200);
        Edges.due("by pull, not all", w.bears(0, 1, 418), 199);
        Edges.due("by pull, three pounds alike", w.bears(1, 1, 3), 1);
        Edges.due("by pull, the next three", w.bears(1, 1, 4), 4);
        Edges.due("by pull, beyond", w.bears(1, 1, 2), -2);
        w.work(0, 0);
        Edges.due("a wheel of 100", w.bears(0, 1, 0), 200);
        Edges.due("a wheel of 100, beyond", w.bears(0, 1, -1), -2);
        SagGates bent = Edges.told("law bend child;gate a 24 24 20 hooks 0 24 0 0;gate b 24 24 20 hooks 0 12 0 0;");
        Edges.due("by way of hooks", bent.bears(0, 1, 8), 8);
        Edges.due("by way of hooks, a span of 12", bent.bears(1, 1, 9), 4);
        SagGates v = Edges.told("law open 7;" + Edges.GATE);
        Edges.due("child is none of the law", v.bears(0, 3, 21), 200);
        Edges.due("child is none of the law, beyond", v.bears(0, 3, 20), -2);
    }

    private static void beyondTheLastWeek() {
        Edges.says("WEEKS to come go as from now on.");
        SagGates x = Edges.told("law open 1;law lean week >= 2000;gate a 24 24 20 latch 0 2001;");
        for (int i = 0; i < 3; i++) {
            x.weeks(520);
        }
        x.weeks(440);
        Edges.due("none has gone by beyond", x.sags(0, 0), 2000);
        Edges.due("lasts", x.lasts(0, 2001), 1);
        Edges.due("lasts, the thousandth", x.lasts(0, 3999), 1000);
        Edges.due("lasts, never", x.lasts(0, 4000), 0);
        Edges.due("least", x.least(0, 2, 2004, 0), 0);
        Edges.due("least, beyond", x.least(0, 2, 2003, 0), -2);
        Edges.due("enough", x.enough(0, 520, 520), 12);
        Edges.due("enough, beyond", x.enough(0, 520, 519), -2);
        Edges.due("bears", x.bears(0, 1, 2002), 200);
        Edges.due("wind", x.wind(0, 0, 100, 1, 2199), 10);
        Edges.due("wind, not above", x.wind(0, 0, 100, 1, 2200), 0);
        Edges.due("first", x.first(100, 0), 0);
        Edges.due("way", x.way(0, 520), 0);
        Edges.due("the week that is next", x.count(4), 2000);
    }

    private static void gatesBesideOneAnother() {
        Edges.says("WEEKS to come go as from now on: each GATE by its own causes, works and parts");
        SagGates x = Edges.told("cause l 1 lean 24;cause o 1 open 12;cause b 1 bend 6;gate a 24 24 20 has l;gate b 24 24 20 has o;gate c 24 24 20 has b hooks 0 24 0 0;gate d 24 24 20;work w 1 wire 12;");
        int[] lasts = {1, 2, 4, 0};
        for (int times = 0; times < 2; times++) {
            for (int gate = 0; gate < 4; gate++) {
                Edges.due("lasts(" + gate + ", 23)", x.lasts(gate, 23), lasts[gate]);
            }
            for (int gate = 3; gate >= 0; gate--) {
                Edges.due("lasts(" + gate + ", 23) from the last on", x.lasts(gate, 23), lasts[gate]);
            }
        }
        x.work(1, 0);
        Edges.due("with a wire", x.lasts(1, 23), 3);
        Edges.due("beside it", x.lasts(0, 23), 1);
        x.work(0, 0);
        x.weeks(1);
        x.undo();
        Edges.due("undone", x.lasts(0, 23), 1);
        x.weeks(1);
        Edges.due("its cause goes on", x.sags(0, 1), 24);
        Edges.due("causes that it has", x.look(0, 10), 1);
        x.keep();
        x.weeks(5);
        x.back();
        x.weeks(1);
        int[] drops = {48, 24, 18, 0};
        for (int gate = 0; gate < 4; gate++) {
            Edges.due("gate " + gate + " goes on from the image", x.sags(gate, 0), drops[gate]);
            Edges.due("causes that it has", x.look(gate, 10), gate < 3 ? 1 << gate : 0);
        }
    }

    private static void measure() {
        Edges.says("Promise 21: A MEASURE (low -9999999 .. 9999999, high not below it and 9999999 at most; a WEEK 0 .. 1999): its number; NONE: no such ones, or there are 40.");
        SagGates x = Edges.told(Edges.GATE);
        for (int gate : NO_GATES) {
            Edges.due("gate " + gate, x.measure(gate, 0, 0, 0, 0), -1);
        }
        for (int week : new int[] {-1, 2000, Edges.MAX, Edges.MIN}) {
            Edges.due("week " + week, x.measure(0, week, 0, 0, 0), -1);
        }
        for (int what : new int[] {-1, 4, Edges.MAX, Edges.MIN}) {
            Edges.due("what " + what, x.measure(0, 0, what, 0, 0), -1);
        }
        int[][] wrong = {{-10000000, 0}, {Edges.MIN, 0}, {0, 10000000}, {0, Edges.MAX}, {1, 0}, {0, -1}, {9999999, 9999998}, {10000000, 10000000}, {-10000000, -10000000},
            {Edges.MIN, Edges.MAX}, {Edges.MAX, Edges.MIN}};
        for (int[] w : wrong) {
            Edges.due(w[0] + " .. " + w[1], x.measure(0, 0, 0, w[0], w[1]), -1);
        }
        Edges.due("none of these came", x.count(5), 0);
        int[][] right = {{-9999999, 9999999}, {-9999999, -9999999}, {9999999, 9999999}, {0, 0}};
        for (int i = 0; i < right.length; i++) {
            Edges.due(right[i][0] + " .. " + right[i][1], x.measure(0, i % 2 == 0 ? 0 : 1999, i, right[i][0], right[i][1]), i);
        }
        for (int i = 4; i < 40; i++) {
            Edges.due("measure " + i, x.measure(0, 0, 0, 0, 0), i);
        }
        Edges.due("the 41st", x.measure(0, 0, 0, 0, 0), -1);
        Edges.due("the 41st, a strike", x.strike(0), -1);
        Edges.due("the 41st again", x.measure(0, 0, 0, 0, 0), -1);
        Edges.due("count(5)", x.count(5), 40);
        x.text(0);
        Edges.due("count(5) behind a new text", x.count(5), 0);
        SagGates y = Edges.told("cause c 1 open 5;" + Edges.GATE);
        for (int i = 0; i < 39; i++) {
            y.measure(0, 0, 0, 0, 5);
        }
        Edges.due("all fit", y.fits(0), 3);
        Edges.due("the 40th", y.measure(0, 0, 0, 5, 5), 39);
        Edges.due("the 40th counts", y.fits(0), 1);
    }

    private static void measuredAtEnds() {
        Edges.says("MEASURES: of a GATE behind WEEK n, what 0 DROP, 1 LEAN, 2 SQUARE, 3 HOOKS was between two numbers");
        String text = "cause c 1 lean 1;law lean 10;law open 20;law bend 30;gate a 24 24 20 hooks 0 24 0 0;";
        int[] behind = {60, 10, 20, 30};
        for (int what = 0; what < 4; what++) {
            int[][] between = {{0, 0, 1}, {-1, 1, 1}, {-9, -1, 0}, {1, 9, 0}, {0, 9, 1}, {-9, 0, 1}};
            for (int[] b : between) {
                SagGates x = Edges.told(text);
                x.measure(0, 0, what, behind[what] + b[0], behind[what] + b[1]);
                Edges.due("what " + what + " by " + b[0] + " .. " + b[1] + ", whether none fits", x.fits(0) >> 1, b[2]);
            }
        }
        SagGates y = Edges.told("law lean 9999;law open 9999;law bend 9999;gate a 144 24 20 hooks 23 24 0 0;");
        y.measure(0, 1999, 1, 1000000, 1000000);
        y.measure(0, 1999, 2, 1000000, 1000000);
        y.measure(0, 1999, 3, 1000000, 1000000);
        Edges.due("at most a million", y.fits(0), 1);
        y.measure(0, 1999, 0, 9999999, 9999999);
        Edges.due("a drop beyond what may be measured", y.fits(0), 0);
    }

    private static void measuredWeeks() {
        Edges.says("A RUN of a GATE is all its WEEKS from 0 on, nothing done by WORKS, with one CAUSE alone (or none) instead of those that it has.");
        SagGates x = Edges.told("law open 1;cause a 1 open 10;cause b 1 open 20;gate a 24 24 20 has a has b brace down;work w 1 wire 500;work b 1 brace;work s 1 square;");
        x.weeks(10);
        x.work(0, 0);
        x.work(0, 1);
        x.work(0, 2);
        x.measure(0, 0, 0, 1, 21);
        Edges.due("week 0: one alone or none", x.fits(0), 7);
        x.measure(0, 1999, 2, 2000, 42000);
        Edges.due("week 1999, weeks to come", x.fits(0), 7);
        x.measure(0, 1999, 2, 22000, 42000);
        Edges.due("week 1999, not none", x.fits(0), 3);
        x.measure(0, 9, 0, 110, 110);
        Edges.due("week 9, nothing done", x.fits(0), 1);
        x.measure(0, 9, 0, 310, 310);
        Edges.due("week 9, not both", x.fits(0), 0);
        SagGates y = Edges.told("law open (week = 0) * 5 + (week = 1999) * 7;" + Edges.GATE);
        y.measure(0, 0, 2, 5, 5);
        y.measure(0, 1, 2, 5, 5);
        y.measure(0, 1998, 2, 5, 5);
        y.measure(0, 1999, 2, 12, 12);
        Edges.due("behind weeks 0, 1, 1998, 1999", y.fits(0), 1);
        y.weeks(3);
        y.keep();
        y.back();
        Edges.due("whatever week is next", y.fits(0), 1);
    }

    private static void strike() {
        Edges.says("Promise 22: A STRIKE: its MEASURE's number; NONE: no such MEASURE, or there are 40.");
        SagGates x = Edges.told("cause c 1 open 5;" + Edges.GATE);
        for (int measure : new int[] {-1, 0, 1, 40, Edges.MAX, Edges.MIN}) {
            Edges.due("strike(" + measure + ") of none", x.strike(measure), -1);
        }
        x.measure(0, 0, 2, 5, 5);
        for (int measure : new int[] {-1, 1, 2, 40, Edges.MAX, Edges.MIN}) {
            Edges.due("strike(" + measure + ") of one", x.strike(measure), -1);
        }
        Edges.due("strike(0)", x.strike(0), 1);
        for (int i = 2; i < 39; i++) {
            Edges.due("strike(0) again", x.strike(0), i);
        }
        Edges.due("the 40th", x.strike(38), 39);
        Edges.due("the 41st", x.strike(0), -1);
        Edges.due("the 41st, of the 40th", x.strike(39), -1);
        Edges.due("the 41st, a measure", x.measure(0, 0, 0, 0, 0), -1);
        Edges.due("count(5)", x.count(5), 40);
        Edges.due("still struck by others", x.fits(0), 3);
    }

    private static void struck() {
        Edges.says("a STRIKE may be STRUCK: then it doesn't count; asked from the last one on");
        SagGates x = Edges.told("cause c 1 open 5;" + Edges.GATE);
        x.measure(0, 0, 2, 5, 5);
        for (int i = 0; i < 39; i++) {
            Edges.due("with " + i + " strikes in a row", x.fits(0), i % 2 == 0 ? 1 : 3);
            Edges.due("strike(" + i + ")", x.strike(i), i + 1);
        }
        Edges.due("with 39 strikes in a row", x.fits(0), 3);
        SagGates y = Edges.told("cause c 1 open 5;" + Edges.GATE);
        y.measure(0, 0, 2, 5, 5);
        y.strike(0);
        y.strike(1);
        y.strike(1);
        Edges.due("a strike struck twice", y.fits(0), 1);
        y.strike(2);
        Edges.due("one of its strikes struck", y.fits(0), 1);
        y.strike(3);
        Edges.due("both struck", y.fits(0), 3);
        y.measure(0, 0, 2, 5, 5);
        Edges.due("another measure", y.fits(0), 1);
        y.strike(6);
        Edges.due("struck, too", y.fits(0), 3);
    }

    private static void known() {
        Edges.says("Promise 23: KNOWN by n MEASURES from now on (-1: by all, also those to come): true; false: no such n.");
        SagGates x = Edges.told("cause c 1 open 5;" + Edges.GATE);
        Edges.yes("known(-1) of none", x.known(-1));
        Edges.yes("known(0) of none", x.known(0));
        for (int n : new int[] {1, 2, 40, Edges.MAX, -2, Edges.MIN}) {
            Edges.no("known(" + n + ") of none", x.known(n));
        }
        x.measure(0, 0, 2, 5, 5);
        Edges.due("by 0, those to come don't count", x.fits(0), 3);
        Edges.due("count(6)", x.count(6), 0);
        for (int n : new int[] {2, 3, 40, Edges.MAX, -2, Edges.MIN}) {
            Edges.no("known(" + n + ") of one", x.known(n));
            Edges.due("count(6) stays", x.count(6), 0);
        }
        Edges.yes("known(1)", x.known(1));
        Edges.due("by 1", x.fits(0), 1);
        x.measure(0, 0, 2, 0, 0);
        Edges.due("by 1 of 2", x.fits(0), 1);
        Edges.no("known(3)", x.known(3));
        Edges.due("count(6)", x.count(6), 1);
        Edges.yes("known(-1)", x.known(-1));
        Edges.due("by all", x.fits(0), 0);
        Edges.due("count(6)", x.count(6), 2);
        x.strike(0);
        Edges.due("by all, those to come", x.fits(0), 2);
        Edges.due("count(6)", x.count(6), 3);
        for (int i = 3; i < 40; i++) {
            x.measure(0, 0, 2, 0, 5);
        }
        Edges.yes("known(40)", x.known(40));
        Edges.no("known(41)", x.known(41));
        Edges.due("count(6)", x.count(6), 40);
    }

    private static void knownByNumbers() {
        Edges.says("KNOWN by n (all at first): the first n that aren't STRUCK by one of these");
        SagGates x = Edges.told("cause a 1 open 1;cause b 1 open 2;cause c 1 open 4;" + Edges.GATE);
        Edges.due("all at first", x.count(6), 0);
        x.measure(0, 0, 2, 1, 4);
        x.measure(0, 0, 2, 2, 4);
        x.measure(0, 0, 2, 4, 4);
        x.strike(2);
        x.strike(1);
        x.strike(3);
        x.strike(0);
        int[] due = {15, 7, 6, 4, 6, 7, 4, 4};
        for (int n = 0; n <= 7; n++) {
            Edges.yes("known(" + n + ")", x.known(n));
            Edges.due("by " + n, x.fits(0), due[n]);
        }
        x.known(-1);
        Edges.due("by all", x.fits(0), due[7]);
    }

    private static final String CAUSES = "cause a 5 lean 10;cause b 7 open 20;cause c 9 bend 30;cause d 4 open 20;law lean 1;gate g 24 24 20;";

    private static void fits() {
        Edges.says("FITS of a GATE: CAUSES (bits; the bit behind all CAUSES: none) by which all KNOWN MEASURES of it are so; Promise 24: NONE: no such GATE.");
        Edges.due("no causes, no measures", Edges.told(Edges.GATE).fits(0), 1);
        SagGates x = Edges.told(CAUSES + "gate h 24 24 20;");
        Edges.due("no measures", x.fits(0), 31);
        x.measure(1, 0, 2, 20, 20);
        Edges.due("a measure of another gate", x.fits(0), 31);
        Edges.due("of it", x.fits(1), 10);
        for (int gate : new int[] {-1, 2, 4, Edges.MAX, Edges.MIN}) {
            Edges.due("gate " + gate, x.fits(gate), -1);
        }
        String six = "";
        for (int i = 0; i < 6; i++) {
            six += "cause " + (char) ('a' + i) + " " + (i + 1) + " open " + (i + 1) + ";";
        }
        SagGates y = Edges.told(six + Edges.GATE);
        Edges.due("six and none", y.fits(0), 127);
        y.measure(0, 0, 2, 0, 0);
        Edges.due("none alone", y.fits(0), 64);
        y.measure(0, 0, 2, 1, 1);
        Edges.due("not even none", y.fits(0), 0);
        y.known(0);
        y.measure(0, 0, 2, 6, 6);
        y.strike(0);
        y.strike(1);
        y.known(-1);
        Edges.due("the last cause alone", y.fits(0), 32);
    }

    private static void odds() {
        Edges.says("Promise 25: ODDS of a CAUSE (as many as there are: none); 0 by 1, if it doesn't FIT, 0 by 0, if none does. NONE: no such ones.");
        SagGates x = Edges.told(CAUSES);
        int[] weights = {5, 7, 9, 4, 1};
        for (int cause = 0; cause <= 4; cause++) {
            Edges.due("above, " + cause, x.odds(0, cause, 0), weights[cause]);
            Edges.due("below, " + cause, x.odds(0, cause, 1), 26);
        }
        x.measure(0, 0, 2, 20, 20);
        int[] fitting = {0, 7, 0, 4, 0};
        for (int cause = 0; cause <= 4; cause++) {
            Edges.due("above, " + cause, x.odds(0, cause, 0), fitting[cause]);
            Edges.due("below, " + cause, x.odds(0, cause, 1), fitting[cause] > 0 ? 11 : 1);
        }
        x.measure(0, 0, 2, 21, 21);
        for (int cause = 0; cause <= 4; cause++) {
            Edges.due("none fits: above, " + cause, x.odds(0, cause, 0), 0);
            Edges.due("none fits: below, " + cause, x.odds(0, cause, 1), 0);
        }
        for (int cause : new int[] {-1, 5, 6, 7, 32, Edges.MAX, Edges.MIN}) {
            Edges.due("cause " + cause, x.odds(0, cause, 0), -1);
        }
        for (int what : NO_WHATS) {
            Edges.due("what " + what, x.odds(0, 0, what), -1);
        }
        for (int gate : NO_GATES) {
            Edges.due("gate " + gate, x.odds(gate, 0, 0), -1);
        }
        SagGates y = Edges.told(Edges.GATE);
        Edges.due("no causes: none above", y.odds(0, 0, 0), 1);
        Edges.due("no causes: none below", y.odds(0, 0, 1), 1);
        Edges.due("no causes: cause 1", y.odds(0, 1, 0), -1);
        SagGates z = Edges.told("cause a 6 lean 1;cause b 2 lean 1;cause c 99 lean 1;cause d 99 lean 1;cause e 99 lean 1;cause f 99 lean 1;" + Edges.GATE);
        Edges.due("six and none", z.odds(0, 6, 1), 405);
        z.measure(0, 0, 1, 1, 1);
        Edges.due("six", z.odds(0, 0, 1), 404);
        Edges.due("none does not", z.odds(0, 6, 1), 1);
    }

    private static void test() {
        Edges.says("TEST: that of which the heaviest group (by WEIGHTS) is least, of several the first; Promise 26: NONE: fewer than two FIT, no such ones.");
        SagGates x = Edges.told(CAUSES);
        x.weeks(1);
        Edges.due("of drop and square the first", x.test(0, 0), 0);
        Edges.due("heaviest", x.test(0, 1), 11);
        SagGates lean = Edges.told("cause a 5 lean 24;cause b 7 open 24;cause c 8 lean 25;cause d 2 open 25;gate g 24 24 20;");
        lean.weeks(1);
        Edges.due("lean", lean.test(0, 0), 1);
        Edges.due("lean's heaviest", lean.test(0, 1), 10);
        SagGates square = Edges.told("cause a 5 lean 24;cause b 7 open 24;cause c 2 open 23;gate g 24 24 20;");
        square.weeks(1);
        Edges.due("square", square.test(0, 0), 2);
        Edges.due("square's heaviest", square.test(0, 1), 7);
        SagGates hooks = Edges.told("cause a 5 lean 12;cause b 7 open 12;cause c 8 bend 6;gate g 24 24 20;");
        hooks.weeks(1);
        Edges.due("hooks", hooks.test(0, 0), 3);
        Edges.due("hooks' heaviest", hooks.test(0, 1), 13);
        for (int what : NO_WHATS) {
            Edges.due("what " + what, x.test(0, what), -1);
        }
        for (int gate : NO_GATES) {
            Edges.due("gate " + gate, x.test(gate, 0), -1);
        }
        Edges.due("none fits but none", Edges.told(Edges.GATE).test(0, 0), -1);
        SagGates two = Edges.told("cause a 5 open 1;" + Edges.GATE);
        two.weeks(1);
        Edges.due("two fit", two.test(0, 1), 5);
        two.measure(0, 0, 2, 1, 1);
        Edges.due("one fits", two.test(0, 0), -1);
        two.measure(0, 0, 2, 0, 0);
        Edges.due("none fits", two.test(0, 0), -1);
        two.strike(0);
        Edges.due("none alone fits", two.test(0, 1), -1);
        SagGates none = Edges.told("cause a 5 open 1;cause b 1 open 1;" + Edges.GATE);
        none.weeks(1);
        Edges.due("none is a group of its own", none.test(0, 1), 6);
        SagGates gone = Edges.told("cause a 3 open 1;cause b 4 open 2;cause c 9 lean 5;" + Edges.GATE);
        gone.weeks(1);
        gone.measure(0, 0, 1, 0, 0);
        Edges.due("one that doesn't fit is no group", gone.test(0, 1), 4);
    }

    private static void testAheadOfWeekNought() {
        Edges.says("measured behind the WEEK that went by last (by RUNS; ahead of WEEK 0 as at first)");
        SagGates x = Edges.told("cause a 5 open 1;cause b 6 lean 1;law bend 3 * (week = 0);" + Edges.GATE);
        Edges.due("as at first: drop", x.test(0, 0), 0);
        Edges.due("as at first: all alike", x.test(0, 1), 12);
        x.measure(0, 1999, 3, 3, 3);
        Edges.due("whatever weeks are measured", x.test(0, 1), 12);
        x.measure(0, 0, 2, 0, 0);
        Edges.due("one that doesn't fit, alike at first, is in no group", x.test(0, 1), 7);
        x.strike(1);
        x.keep();
        x.weeks(1);
        Edges.due("behind week 0: drop parts one alone", x.test(0, 1), 6);
        Edges.due("behind week 0: lean", x.test(0, 0), 1);
        x.back();
        Edges.due("ahead of week 0 again", x.test(0, 1), 12);
        SagGates y = Edges.told("cause a 5 open 1;cause b 6 open 1;law open (drop = 3) * 0 + (week = 5) * 2;work w 1 wire 1;" + Edges.GATE);
        y.weeks(1);
        y.work(0, 0);
        Edges.due("by runs, nothing done", y.test(0, 1), 11);
        SagGates z = Edges.told("cause a 5 open 600;cause b 6 open 601;" + Edges.GATE);
        for (int i = 0; i < 3; i++) {
            z.weeks(520);
        }
        z.weeks(106);
        Edges.due("both not yet at a million behind week 1665", z.test(0, 1), 6);
        z.weeks(1);
        Edges.due("both at a million behind week 1666", z.test(0, 1), 11);
        SagGates last = Edges.told("cause a 5 open 500;cause b 6 open 499;" + Edges.GATE);
        for (int i = 0; i < 3; i++) {
            last.weeks(520);
        }
        last.weeks(440);
        Edges.due("behind week 1999", last.test(0, 1), 6);
    }

    private static void low() {
        Edges.says("Promise 27: LOW of an ANGLE; Integer.MIN_VALUE: no such ones.");
        SagGates x = Edges.told("law lean 1;gate a 24 71 20 hooks 0 70 30 - 30;gate b 24 24 20 hooks 0 24 - 30 30;");
        for (int angle = 0; angle < 9; angle++) {
            Edges.due("angle " + angle, x.low(0, angle), 3000 * COSINES[angle] - 3000 * SINES[angle]);
            Edges.due("angle " + angle + " of the other", x.low(1, angle), 3000 * SINES[angle] - 3000 * COSINES[angle]);
        }
        x.weeks(1);
        Edges.due("lean by span and height, cut to 0", x.low(0, 0), 3000000);
        x.weeks(1);
        Edges.due("lean by span and height, cut to 1", x.low(0, 0), 3001000);
        for (int angle : NO_ANGLES) {
            Edges.due("angle " + angle, x.low(0, angle), Edges.MIN);
        }
        for (int gate : new int[] {-1, 2, 4, Edges.MAX, Edges.MIN}) {
            Edges.due("gate " + gate, x.low(gate, 0), Edges.MIN);
        }
        SagGates y = Edges.told("law lean 9999;gate a 24 24 20 hooks 0 24 30 30;");
        y.weeks(101);
        for (int angle = 0; angle < 9; angle++) {
            Edges.due("angle " + angle + " by a million", y.low(0, angle), 1003000 * COSINES[angle] + 3000 * SINES[angle]);
        }
    }

    private static void rest() {
        Edges.says("REST: the ANGLE with the greatest LOW, of several the first; Promise 28: NONE: no such GATE.");
        int[][] stands = {{0, 0, 0}, {1, 0, 0}, {-1, 0, 8}, {0, 1, 4}, {0, -1, 0}, {30, 30, 2}, {-30, 30, 6}, {30, -30, 0}, {-30, -30, 8}, {30, 10, 1}, {10, 30, 3}, {-10, 30, 5}, {-30, 10, 7},
            {1, -30, 0}, {-1, -30, 8}};
        for (int[] s : stands) {
            SagGates x = Edges.told("gate a 24 24 20 hooks 0 9 " + s[0] + " " + s[1] + ";");
            Edges.due("out " + s[0] + ", aside " + s[1], x.rest(0), s[2]);
        }
        SagGates y = Edges.told("law lean 50;gate a 24 24 20 hooks 0 24 - 1 0;");
        Edges.due("leaning back", y.rest(0), 8);
        y.weeks(2);
        Edges.due("leaning neither way: of all the first", y.rest(0), 0);
        y.weeks(1);
        Edges.due("leaning on", y.rest(0), 0);
        for (int gate : NO_GATES) {
            Edges.due("gate " + gate, y.rest(gate), -1);
        }
    }

    private static void shuts() {
        Edges.says("SHUTS from ANGLES k: on each step from k to 0 LOW grows (0 itself does); Promise 29: NONE: no such GATE.");
        int[][] stands = {{0, 0, 1}, {1, 0, 511}, {-1, 0, 1}, {0, 1, 1}, {0, -1, 31}, {30, 30, 1}, {30, -30, 127}, {-30, -30, 7}, {30, -1, 511}, {30, -6, 255}, {30, 5, 1}, {30, 6, 1}, {1, -30, 31}, {-1, -30, 31},
            {-30, 30, 1}};
        for (int[] s : stands) {
            SagGates x = Edges.told("gate a 24 24 20 hooks 0 9 " + s[0] + " " + s[1] + ";");
            Edges.due("out " + s[0] + ", aside " + s[1], x.shuts(0), shutsBySteps(s[0], s[1]));
            if (s[0] == 0 || s[1] == 0 || s[0] == -s[1]) {
                Edges.due("out " + s[0] + ", aside " + s[1] + ", by hand", x.shuts(0), s[2]);
            }
        }
        SagGates y = Edges.told(Edges.GATE);
        for (int gate : NO_GATES) {
            Edges.due("gate " + gate, y.shuts(gate), -1);
        }
    }

    private static int shutsBySteps(int out, int aside) {
        int set = 0;
        for (int k = 0; k < 9; k++) {
            boolean shuts = true;
            for (int angle = k; angle > 0; angle--) {
                long from = 100L * out * COSINES[angle] + 100L * aside * SINES[angle];
                long to = 100L * out * COSINES[angle - 1] + 100L * aside * SINES[angle - 1];
                shuts = shuts && to > from;
            }
            set |= shuts ? 1 << k : 0;
        }
        return set;
    }

    private static void above() {
        Edges.says("ABOVE at an ANGLE: LENGTH times (LOW of ANGLE 0 less its own) by (1000 SPAN), cut, and gap, less DROP, less 100 times rise; Promise 30: Integer.MIN_VALUE: no such ones.");
        SagGates x = Edges.told("gate a 25 24 20 hooks 0 24 1 0 gap 0 rise 1 2 3 4 5 6 7 8 9;gate b 25 24 20 hooks 0 24 - 1 0 gap 9999;");
        for (int angle = 0; angle < 9; angle++) {
            int lower = 100 * (1000 - COSINES[angle]);
            Edges.due("angle " + angle, x.above(0, angle), 25 * lower / 24000 - 100 * (angle + 1));
            Edges.due("angle " + angle + " below, cut towards 0", x.above(1, angle), 9999 - 25 * lower / 24000);
        }
        for (int angle : NO_ANGLES) {
            Edges.due("angle " + angle, x.above(0, angle), Edges.MIN);
        }
        for (int gate : new int[] {-1, 2, 4, Edges.MAX, Edges.MIN}) {
            Edges.due("gate " + gate, x.above(gate, 0), Edges.MIN);
        }
        SagGates y = Edges.told("law lean 9999;law open 9999;law bend 9999;gate a 144 24 20 hooks 23 24 30 0;gate b 144 72 20 hooks 0 72 30 0;");
        y.weeks(101);
        Edges.due("the furthest below", y.above(0, 0), 3000 - 6000000 - 1000000 - 144000000);
        Edges.due("the furthest below, open", y.above(0, 8), 2 * 144 * (3000 + 41666) + 3000 - 151000000);
        Edges.due("beyond an int on its way", y.above(1, 8), 2 * 144 * 1003000L / 72 + 3000 - 2000000 - 1000000 - 2000000);
    }

    private static void opens() {
        Edges.says("OPENS: the greatest ANGLE up to which (from 0 on) ABOVE is 0 at least; NONE, if not at 0; Promise 31: -2: no such GATE.");
        for (int angle = 0; angle < 9; angle++) {
            String before = Edges.times(" 0", angle);
            String after = Edges.times(" 0", 8 - angle);
            Edges.due("just so at " + angle, Edges.told("gate a 24 24 20 gap 1000 rise" + before + " 10" + after + ";").opens(0), 8);
            Edges.due("too high at " + angle, Edges.told("gate a 24 24 20 gap 999 rise" + before + " 10" + after + ";").opens(0), angle - 1);
            Edges.due("too high at " + angle + " and beyond", Edges.told("gate a 24 24 20 gap 999 rise" + before + Edges.times(" 10", 9 - angle) + ";").opens(0), angle - 1);
        }
        SagGates x = Edges.told("law open 1;gate a 24 24 20 gap 1;");
        Edges.due("all", x.opens(0), 8);
        x.weeks(1);
        Edges.due("just so", x.opens(0), 8);
        x.weeks(1);
        Edges.due("not at 0", x.opens(0), -1);
        for (int gate : NO_GATES) {
            Edges.due("gate " + gate, x.opens(gate), -2);
        }
    }

    private static void stand() {
        Edges.says("STAND of hooks: of all -30 .. 30 those with the least sum of both without sign, of several the least OUT, then ASIDE; Promise 32: Integer.MIN_VALUE: none does, no such ones.");
        SagGates x = Edges.told("gate a 24 24 20 hooks 6 18 9 9;");
        int[] out = {0, 0, 0, 0, 0, 1, 1, 1, 1};
        int[] aside = {0, -1, -1, -1, -1, 0, 0, 0, 0};
        for (int angle = 0; angle < 9; angle++) {
            Edges.due("out to " + angle, x.stand(0, angle, 0), out[angle]);
            Edges.due("aside to " + angle, x.stand(0, angle, 1), aside[angle]);
        }
        for (int angle : NO_ANGLES) {
            Edges.due("angle " + angle, x.stand(0, angle, 0), Edges.MIN);
        }
        for (int what : NO_WHATS) {
            Edges.due("what " + what, x.stand(0, 0, what), Edges.MIN);
        }
        for (int gate : NO_GATES) {
            Edges.due("gate " + gate, x.stand(gate, 0, 0), Edges.MIN);
        }
        Edges.due("its own hooks stay", x.low(0, 0), 900000);
        Edges.due("its own hooks stay aside", x.low(0, 4), 900000);
    }

    private static void standAtTheEnds() {
        Edges.says("OUT and ASIDE with which the GATE OPENS to an ANGLE at least and SHUTS from all up to it");
        SagGates x = Edges.told("law open 1;gate a 24 24 20 rise 0 0 0 0 150 0 0 0 0;gate b 24 24 20 rise 0 0 0 0 0 0 0 0 150;gate c 24 24 20 gap 0;gate d 24 24 20 gap 0 rise 1 0 0 0 0 0 0 0 0;");
        Edges.due("out 30", x.stand(0, 4, 0), 30);
        Edges.due("aside -30", x.stand(0, 4, 1), -30);
        Edges.due("out 30 alone", x.stand(1, 8, 0), 30);
        Edges.due("aside 0", x.stand(1, 8, 1), 0);
        Edges.due("not at 0", x.stand(3, 0, 0), Edges.MIN);
        Edges.due("not at 0, aside", x.stand(3, 8, 1), Edges.MIN);
        Edges.due("just so at 0", x.stand(2, 0, 0), 0);
        x.weeks(1);
        Edges.due("one thousandth too low", x.stand(0, 4, 0), Edges.MIN);
        Edges.due("one thousandth too low, wide", x.stand(1, 8, 1), Edges.MIN);
        Edges.due("one thousandth too low at 0", x.stand(2, 0, 0), Edges.MIN);
        SagGates y = Edges.told("law lean 100;gate a 24 24 20 hooks 0 24 0 0 gap 9999;");
        y.weeks(10);
        Edges.due("it leans on: least out to 8", y.stand(0, 8, 0), 0);
        Edges.due("it leans on: aside", y.stand(0, 8, 1), 0);
        SagGates z = Edges.told("gate a 24 24 20 hooks 0 24 0 0 gap 0 rise 0 0 0 0 4 0 0 0 0;");
        // At angle 4 the gate is raised by out less aside, so 4 tenths want a sum of 4: the least out is 0.
        Edges.due("least out", z.stand(0, 4, 0), 0);
        Edges.due("then aside", z.stand(0, 4, 1), -4);
        SagGates w = Edges.told("law open 9999;law lean 9999;gate a 24 24 20 hooks 0 24 0 0;");
        w.weeks(101);
        Edges.due("far too low", w.stand(0, 0, 0), Edges.MIN);
    }

    private static void first() {
        Edges.says("Promise 33: FIRST (t 1 .. 100), what 0: the sum, 1 and on: GATE what less 1 of the order. NONE: no GATES, no such ones.");
        for (int t : new int[] {0, 1, 100}) {
            for (int what = -1; what <= 2; what++) {
                Edges.due("no gates: first(" + t + ", " + what + ")", new SagGates().first(t, what), -1);
            }
        }
        String[] gates = {"gate a 24 24 20;", "gate b 24 24 20;", "gate c 24 24 20;", "gate d 24 24 20;"};
        String text = "law open 2000;";
        for (int many = 1; many <= 4; many++) {
            text += gates[many - 1];
            SagGates x = Edges.told(text);
            for (int t : new int[] {1, 2, 100}) {
                // 2000 is beyond the latch, and a million is not reached: all weeks of all gates count, whatever is made good.
                Edges.due("sum of " + many + " by " + t, x.first(t, 0), many * many * t);
                for (int what = 1; what <= many; what++) {
                    Edges.due("order of " + many + ", " + what, x.first(t, what), what - 1);
                }
                for (int what : new int[] {-1, many + 1, 5, Edges.MAX, Edges.MIN}) {
                    Edges.due("what " + what + " of " + many, x.first(t, what), -1);
                }
            }
            for (int t : new int[] {0, -1, 101, Edges.MAX, Edges.MIN}) {
                Edges.due("t " + t, x.first(t, 0), -1);
                Edges.due("t " + t, x.first(t, 1), -1);
            }
            Edges.due("nothing went by", x.count(4), 0);
            Edges.due("nothing is made good", x.sags(0, 0), 0);
        }
    }

    private static void firstOfSeveral() {
        Edges.says("the order in which the sum over all WEEKS of those turns of GATES not LATCHED at their end is least, of several the first by GATES");
        SagGates x = Edges.told("cause s 1 open 10;gate a 24 24 20 has s latch 0 30;gate b 24 24 20 has s latch 0 10;gate c 24 24 20 latch 0 0;gate d 24 24 20 has s latch 0 20;");
        // By turns of 1 week, 4 in all: a is off in week 3 unless it is made good, b in 1 .. 3, d in 2 and 3.
        Edges.due("sum", x.first(1, 0), firstByHand());
        SagGates y = Edges.told("cause s 1 open 10;gate a 24 24 20 has s latch 0 10;gate b 24 24 20 has s latch 0 40;");
        Edges.due("sum by 2", y.first(2, 0), 2);
        Edges.due("the second one first", y.first(2, 1), 1);
        Edges.due("then the first", y.first(2, 2), 0);
        SagGates z = Edges.told("gate a 24 24 20 latch 0 0;gate b 24 24 20;work w 1 wire 5;law open week = 3;");
        z.work(0, 0);
        Edges.due("risen: made good at once", z.first(1, 0), 0);
        Edges.due("risen: first", z.first(1, 1), 0);
        z.weeks(3);
        Edges.due("at the begin of its first week, ahead of what that week does", z.first(1, 0), 1);
        Edges.due("so the other one first", z.first(1, 1), 1);
        SagGates w = Edges.told("law open 5;gate a 24 24 20 latch 0 5;");
        Edges.due("at the bound of its latch it is latched", w.first(1, 0), 0);
        Edges.due("one week beyond", w.first(2, 0), 1);
        Edges.due("99 weeks beyond", w.first(100, 0), 99);
        w.weeks(7);
        Edges.due("made good from now on", w.first(1, 0), 0);
        SagGates v = Edges.told("gate a 24 24 20 latch 4 0;work w 1 wire 5;");
        v.work(0, 0);
        Edges.due("risen, but made good", v.first(1, 0), 0);
        Edges.due("it stays risen", v.latched(0), 0);
        SagGates u = Edges.told("law open 10 * (week = 5);gate a 24 24 20 latch 0 9;");
        u.weeks(4);
        Edges.due("weeks to come by their numbers", u.first(3, 0), 2);
        Edges.due("weeks to come by their numbers, just not yet", u.first(1, 0), 0);
    }

    /** The least sum over all orders of the four gates above, each a row of weeks. */
    private static int firstByHand() {
        int[] mayDrop = {30, 10, 0, 20};
        int[] opens = {10, 10, 0, 10};
        int least = Edges.MAX;
        for (int order = 0; order < 256; order++) {
            int[] turn = {order & 3, order >> 2 & 3, order >> 4 & 3, order >> 6 & 3};
            if ((1 << turn[0] | 1 << turn[1] | 1 << turn[2] | 1 << turn[3]) == 15) {
                int sum = 0;
                for (int gate = 0; gate < 4; gate++) {
                    int drop = 0;
                    for (int week = 0; week < 4; week++) {
                        drop = (week == turn[gate] ? 0 : drop) + opens[gate];
                        sum += drop > mayDrop[gate] ? 1 : 0;
                    }
                }
                least = Math.min(least, sum);
            }
        }
        return least;
    }

    private static void wind() {
        Edges.says("Promise 34: WIND (n 1 .. 100, w 1 .. 99, a bound): how many; NONE: no such ones; the seed, 0 .. 2147483647");
        SagGates x = Edges.told("law open child;gate a 24 24 20 child 1;");
        for (int seed : new int[] {-1, Edges.MIN}) {
            Edges.due("seed " + seed, x.wind(0, seed, 1, 1, 0), -1);
        }
        for (int n : new int[] {0, -1, 101, Edges.MAX, Edges.MIN}) {
            Edges.due("n " + n, x.wind(0, 0, n, 1, 0), -1);
        }
        for (int w : new int[] {0, -1, 100, Edges.MAX, Edges.MIN}) {
            Edges.due("w " + w, x.wind(0, 0, 1, w, 0), -1);
        }
        for (int bound : NO_BOUNDS) {
            Edges.due("bound " + bound, x.wind(0, 0, 1, 1, bound), -1);
        }
        for (int gate : NO_GATES) {
            Edges.due("gate " + gate, x.wind(gate, 0, 1, 1, 0), -1);
        }
        Edges.due("bound -99999", x.wind(0, 0, 1, 1, -99999), 10);
        Edges.due("bound 99999", x.wind(0, 0, 100, 1, 99999), 0);
        Edges.due("at a bound is not above it", x.wind(0, 0, 1, 1, 101), 0);
        Edges.due("just above", x.wind(0, 0, 1, 1, 100), 10);
        Edges.due("n 100, w 1, at the bound", x.wind(0, 0, 100, 1, 10100), 0);
        Edges.due("n 100, w 1, just above", x.wind(0, 0, 100, 1, 10099), 10);
        Edges.due("its child stays", x.look(0, 8), 1);
        Edges.due("no week went by", x.count(4), 0);
    }

    private static void windAtTheEnds() {
        Edges.says("numbers are the last one (at first the seed) times 1103515245 and 12345, without what is above 31 bits, by 65536; ten draws, one behind the other");
        SagGates x = Edges.told("law open child;gate a 24 24 20 child 1;");
        for (int seed : new int[] {0, 1, 65535, 65536, 1103515245, 2147483646, 2147483647}) {
            for (int w : new int[] {1, 2, 3, 50, 98, 99}) {
                for (int n : new int[] {1, 2, 99, 100}) {
                    int bound = n + 100 * (n / w);
                    Edges.due("seed " + seed + ", w " + w + ", n " + n, x.wind(0, seed, n, w, bound), draws(seed, n, w, bound));
                }
            }
        }
        SagGates y = Edges.told("law open pull;gate a 24 24 20 child 200;");
        Edges.due("a child of 300 pounds", y.wind(0, 0, 1, 1, 619), 10);
        Edges.due("a child of 300 pounds, not above", y.wind(0, 0, 1, 1, 620), 0);
    }

    private static int draws(int seed, int n, int w, int bound) {
        long number = seed;
        int many = 0;
        for (int draw = 0; draw < 10; draw++) {
            int drop = 0;
            for (int week = 0; week < n; week++) {
                number = (number * 1103515245L + 12345L) % (1L << 31);
                drop += number / 65536 % w == 0 ? 101 : 1;
            }
            many += drop > bound ? 1 : 0;
        }
        return many;
    }

    private static void manyCalls() {
        Edges.says("An object is used for at most 512 calls after it has been made");
        SagGates x = new SagGates();
        Edges.feedTwenty(x, "law open 1;gate a 24", 0);
        Edges.feedTwenty(x, " 24 20;work w 1 wire", 0);
        Edges.feedTwenty(x, " 5;", 0);
        Edges.due("text", x.text(43), 3);
        for (int calls = 4; calls < 511; calls += 3) {
            int gone = (calls - 4) / 3;
            Edges.due("weeks(1)", x.weeks(1), gone + 1);
            Edges.due("work", x.work(0, 0) ? 1 : 0, 1);
            Edges.due("undo", x.undo(), 0);
        }
        Edges.due("the 512th call", x.sags(0, 0), 169);
    }
}
