/** Boundary cases of gates as they are, weeks, laws at work, works and undoing them (==== 2; promises 6 to 14, 20, 35 to 37). */
public final class EdgesOfWeeksTest {
    private static final String[] KINDS = {"lean", "open", "bend"};
    private static final long MOST = 1000000000000L;
    private static final String TRILLION = "1000 * 1000 * 1000 * 1000";
    private static final String FOUR = "gate a 24 24 20;gate b 24 24 20;gate c 24 24 20;gate d 24 24 20;";
    private static final String SIX = "work a 1 brace;work b 2 square;work c 4 wire 7;work d 8 wheel 25;work e 16 stones 6;work f 32 post 5;";

    public static void main(String[] args) {
        look();
        works();
        pull();
        parts();
        months();
        firm();
        weeks();
        growthAtItsEnds();
        growthWithoutLaw();
        partsAtMost();
        namesOfLaws();
        valuesOfLaws();
        division();
        errorsAtTheEnds();
        errorsWithin();
        sags();
        latched();
        gives();
        worksOnce();
        worksByKind();
        undo();
        undoOfMany();
        undoBetweenWeeks();
        knock();
        keep();
        back();
        count();
        Edges.end("edges of weeks");
    }

    private static void look() {
        Edges.says("Promise 6: IndexOutOfBoundsException: no such GATE. NoSuchElementException: no such what.");
        for (int gates = 0; gates <= 4; gates++) {
            SagGates x = Edges.told(FOUR.substring(0, 16 * gates));
            for (int gate : new int[] {-1, gates, gates + 1, 4, 5, Edges.MAX, Edges.MIN}) {
                for (int what : new int[] {-1, 0, 10, 11, Edges.MIN}) {
                    Edges.due("look(" + gate + ", " + what + ") of " + gates, Edges.looked(x, gate, what), Edges.NO_GATE);
                }
            }
            for (int gate = 0; gate < gates; gate++) {
                for (int what : new int[] {-1, 11, 12, Edges.MAX, Edges.MIN}) {
                    Edges.due("look(" + gate + ", " + what + ")", Edges.looked(x, gate, what), Edges.NO_WHAT);
                }
                int[] due = {24, 24, 20, 12, 20, 36, 8, 0, 0, 0, 0};
                for (int what = 0; what < due.length; what++) {
                    Edges.due("look(" + gate + ", " + what + ")", Edges.looked(x, gate, what), due[what]);
                }
            }
        }
    }

    private static void works() {
        Edges.says("Promise 7: 1: 0 brace, 1 square, 2 wire, 3 wheel, 4 stones, 5 post, 6 rehang, 2: its number (0 without). NONE: no such ones.");
        SagGates x = Edges.told("work a 1 brace;work b 2 square;work c 3 wire 4;work d 5 wheel 6;work e 7 stones 8;work f 999 post 9;");
        int[][] due = {{1, 0, 0}, {2, 1, 0}, {3, 2, 4}, {5, 3, 6}, {7, 4, 8}, {999, 5, 9}};
        for (int work = 0; work < 6; work++) {
            for (int what = 0; what < 3; what++) {
                Edges.due("works(" + work + ", " + what + ")", x.works(work, what), due[work][what]);
            }
            for (int what : new int[] {-1, 3, Edges.MAX, Edges.MIN}) {
                Edges.due("works(" + work + ", " + what + ")", x.works(work, what), -1);
            }
        }
        for (int work : new int[] {-1, 6, 7, Edges.MAX, Edges.MIN}) {
            for (int what = -1; what <= 3; what++) {
                Edges.due("works(" + work + ", " + what + ")", x.works(work, what), -1);
            }
        }
        SagGates y = Edges.told("work r 1 rehang 0;");
        Edges.due("rehang", y.works(0, 1), 6);
        Edges.due("number 0", y.works(0, 2), 0);
        Edges.due("work 1 of 1", y.works(1, 0), -1);
        Edges.due("number of a text ahead", Edges.tell(y, "work r 1 rehang 5;") + Edges.tell(y, "work r 1 brace;") + 10 * y.works(0, 2), 2);
    }

    private static void pull() {
        Edges.says("PULL (pounds) at the hooks: LENGTH times (WEIGHT and twice the child) by (2 SPAN), cut");
        Edges.due("cut", Edges.told("gate a 25 24 20 hooks 0 24 0 0;").look(0, 4), 10);
        Edges.due("cut just below", Edges.told("gate a 143 24 21 hooks 0 23 0 0;").look(0, 4), 65);
        Edges.due("least", Edges.told("gate a 24 72 20 hooks 0 72 0 0;").look(0, 4), 3);
        Edges.due("most", Edges.told("gate a 144 24 400 hooks 23 24 0 0 child 200;").look(0, 4), 57600);
        Edges.due("twice the child", Edges.told("gate a 24 24 20 child 1;").look(0, 4), 22);
        Edges.says("with a wheel of w: that times (100 less w) by 100, cut");
        int[] wheels = {0, 1, 50, 99, 100};
        int[] pulls = {133, 131, 66, 1, 0};
        for (int i = 0; i < wheels.length; i++) {
            SagGates x = Edges.told("gate g 96 48 100;work w 1 wheel " + wheels[i] + ";law open pull;");
            Edges.due("without", x.look(0, 4), 133);
            x.work(0, 0);
            Edges.due("wheel " + wheels[i], x.look(0, 4), pulls[i]);
            x.weeks(1);
            Edges.due("in a law", x.sags(0, 2), pulls[i]);
        }
    }

    private static void parts() {
        Edges.says("DROP: LEAN times LENGTH by HEIGHT, and SQUARE, and HOOKS times LENGTH by SPAN (each cut), less LIFT.");
        SagGates x = Edges.told("law lean 1;law bend 1;gate a 25 72 20 hooks 0 72 0 0;gate b 144 24 20 hooks 23 24 0 0;");
        x.weeks(2);
        Edges.due("each cut to 0", x.sags(0, 0), 0);
        x.weeks(1);
        Edges.due("each cut: 75 by 72 twice", x.sags(0, 0), 2);
        x.weeks(2);
        Edges.due("each cut: 125 by 72 twice", x.sags(0, 0), 2);
        x.weeks(1);
        Edges.due("each cut: 150 by 72 twice", x.sags(0, 0), 4);
        Edges.due("by a span of 1", x.sags(1, 0), 36 + 864);
        SagGates y = Edges.told("law lean 9999;law open 9999;law bend 9999;gate b 144 24 20 hooks 23 24 0 0;");
        y.weeks(101);
        Edges.due("the furthest", y.sags(0, 0), 6000000 + 1000000 + 144000000);
    }

    private static void months() {
        Edges.says("A WEEK n (0 .. 1999): its month: n times 12 by 52, cut, modulo 12.");
        SagGates x = Edges.told("ground 1 2 3 4 5 6 7 8 9 10 11 12;");
        int[] begins = {0, 5, 9, 13, 18, 22, 26, 31, 35, 39, 44, 48};
        for (int month = 0; month < 12; month++) {
            Edges.due("its first week", x.firm(begins[month]), month + 1);
            Edges.due("the week ahead of it", x.firm((begins[month] + 51) % 52), (month + 11) % 12 + 1);
            Edges.due("its first week 37 years later", x.firm(begins[month] + 52 * 37), month + 1);
        }
        Edges.due("week 51", x.firm(51), 12);
        Edges.due("week 52", x.firm(52), 1);
        Edges.due("week 1999", x.firm(1999), 6);
    }

    private static void firm() {
        Edges.says("Promise 8: FIRM of the ground in a WEEK; NONE: no such WEEK.");
        SagGates x = Edges.told("ground 9 9 9 9 9 8 9 9 9 9 9 9;" + Edges.GATE + "work s 1 stones 99;");
        x.work(0, 0);
        Edges.due("firm(0)", x.firm(0), 9);
        Edges.due("firm(1999)", x.firm(1999), 8);
        for (int week : new int[] {-1, 2000, 2001, Edges.MAX, Edges.MIN}) {
            Edges.due("firm(" + week + ")", x.firm(week), -1);
            Edges.due("firm(" + week + ") of a new object", new SagGates().firm(week), -1);
        }
        x.weeks(520);
        Edges.due("of a week gone by", x.firm(0), 9);
    }

    private static void weeks() {
        Edges.says("Promise 9: So many WEEKS (0 .. 520) more go by: which one is next; NONE, and none does: no such number, beyond 2000.");
        SagGates x = Edges.told("law lean 1;law open week = 0;law bend week = 1999;" + Edges.GATE);
        for (int n : new int[] {-1, 521, 2000, Edges.MAX, Edges.MIN}) {
            Edges.due("weeks(" + n + ")", x.weeks(n), -1);
        }
        Edges.due("weeks(0)", x.weeks(0), 0);
        Edges.due("none went by", x.sags(0, 1), 0);
        Edges.due("weeks(1)", x.weeks(1), 1);
        Edges.due("week 0 went by", x.sags(0, 2), 1);
        Edges.due("weeks(520)", x.weeks(520), 521);
        Edges.due("weeks(519)", x.weeks(519), 1040);
        Edges.due("weeks(520)", x.weeks(520), 1560);
        Edges.due("weeks(441)", x.weeks(441), -1);
        Edges.due("weeks(520)", x.weeks(520), -1);
        Edges.due("none went by", x.count(4), 1560);
        Edges.due("none grew", x.sags(0, 1), 1560);
        Edges.due("weeks(439)", x.weeks(439), 1999);
        Edges.due("week 1999 is next", x.sags(0, 3), 0);
        Edges.due("weeks(2)", x.weeks(2), -1);
        Edges.due("weeks(1)", x.weeks(1), 2000);
        Edges.due("week 1999 went by", x.sags(0, 3), 1);
        Edges.due("weeks(1)", x.weeks(1), -1);
        Edges.due("weeks(Integer.MAX_VALUE)", x.weeks(Edges.MAX), -1);
        Edges.due("weeks(0)", x.weeks(0), 2000);
        Edges.due("all went by", x.sags(0, 1), 2000);
        SagGates y = Edges.told("law lean 1;" + Edges.GATE);
        y.weeks(520);
        y.weeks(520);
        y.weeks(520);
        Edges.due("weeks(440) at once", y.weeks(440), 2000);
        Edges.due("all went by", y.sags(0, 1), 2000);
        SagGates z = new SagGates();
        Edges.due("without gates", z.weeks(520), 520);
        Edges.due("without gates", z.weeks(521), -1);
    }

    private static void growthAtItsEnds() {
        Edges.says("each as the GATE is when the WEEK begins, 0 at least, 9999 at most");
        for (String kind : KINDS) {
            Edges.due(kind + " by 0 - 1", Edges.growth(kind, "0 - 1"), 0);
            Edges.due(kind + " by 0", Edges.growth(kind, "0"), 0);
            Edges.due(kind + " by 1", Edges.growth(kind, "1"), 1);
            Edges.due(kind + " by 9998", Edges.growth(kind, "9998"), 9998);
            Edges.due(kind + " by 9999", Edges.growth(kind, "9999"), 9999);
            Edges.due(kind + " by 9999 + 1", Edges.growth(kind, "9999 + 1"), 9999);
            Edges.due(kind + " by 10 to the 12", Edges.growth(kind, TRILLION), 9999);
            Edges.due(kind + " by 0 less 10 to the 12", Edges.growth(kind, "0 - " + TRILLION), 0);
            Edges.due(kind + " by 5 * 2 to the 32", Edges.growth(kind, "8192 * 8192 * 64 + 5"), 9999);
        }
        SagGates x = Edges.told("law lean 9 * (drop = 0);law open 9 * (drop = 0);law bend 9 * (drop = 0);" + Edges.GATE);
        x.weeks(1);
        for (int what = 1; what <= 3; what++) {
            Edges.due("sags(0, " + what + ") as the week begins", x.sags(0, what), 9);
        }
        Edges.says("and by what each CAUSE that it has tells");
        for (int kind = 0; kind < 3; kind++) {
            String causes = "cause a 1 " + KINDS[kind] + " 999;cause b 1 " + KINDS[kind] + " 1;cause c 1 " + KINDS[kind] + " 500;";
            SagGates y = Edges.told(causes + "law " + KINDS[kind] + " 9999 * 9;gate a 24 24 20 has a has b;gate b 24 24 20;gate c 24 24 20 has c;");
            y.weeks(1);
            Edges.due("beside the law's most", y.sags(0, 1 + kind), 9999 + 1000);
            Edges.due("of one that has none", y.sags(1, 1 + kind), 9999);
            Edges.due("of one that has another", y.sags(2, 1 + kind), 9999 + 500);
            Edges.due("another part", y.sags(0, 1 + (kind + 1) % 3), 0);
            SagGates z = Edges.told(causes + "law " + KINDS[kind] + " 0 - 400;gate a 24 24 20 has b;");
            z.weeks(1);
            Edges.due("a law below 0 takes nothing from it", z.sags(0, 1 + kind), 1);
        }
    }

    private static void growthWithoutLaw() {
        Edges.says("(0 without such a law, with an ERROR)");
        for (int kind = 0; kind < 3; kind++) {
            SagGates x = Edges.told("cause a 1 " + KINDS[kind] + " 3;law knock 9;gate a 24 24 20 has a;gate b 24 24 20;");
            x.weeks(2);
            Edges.due("without a law", x.sags(1, 1 + kind), 0);
            Edges.due("without a law, with a cause", x.sags(0, 1 + kind), 6);
            String other = KINDS[(kind + 1) % 3];
            SagGates y = Edges.told("cause a 1 " + KINDS[kind] + " 3;law " + KINDS[kind] + " 1 / (week - 1);law " + other + " 2;gate a 24 24 20 has a;");
            y.weeks(1);
            Edges.due("below 0 in week 0", y.sags(0, 1 + kind), 3);
            y.weeks(1);
            Edges.due("an error in week 1", y.sags(0, 1 + kind), 6);
            y.weeks(1);
            Edges.due("none in week 2", y.sags(0, 1 + kind), 10);
            Edges.due("another law", y.sags(0, 1 + (kind + 1) % 3), 6);
            Edges.due("above 10 to the 12", Edges.growth(KINDS[kind], TRILLION + " + 1"), 0);
            Edges.due("above 10 to the 12 on its way", Edges.growth(KINDS[kind], "(" + TRILLION + " + 1) * 0 + 5"), 0);
        }
    }

    private static void partsAtMost() {
        Edges.says("each at most 1000000");
        for (int kind = 0; kind < 3; kind++) {
            SagGates x = Edges.told("law " + KINDS[kind] + " 5000;gate a 24 24 20;");
            x.weeks(199);
            Edges.due("just below", x.sags(0, 1 + kind), 995000);
            x.weeks(1);
            Edges.due("just so", x.sags(0, 1 + kind), 1000000);
            x.weeks(1);
            Edges.due("no more", x.sags(0, 1 + kind), 1000000);
            x.weeks(520);
            Edges.due("no more, ever", x.sags(0, 1 + kind), 1000000);
            SagGates y = Edges.told("cause a 1 " + KINDS[kind] + " 2;law " + KINDS[kind] + " 9999;gate a 24 24 20;gate b 24 24 20 has a;");
            y.weeks(100);
            Edges.due("999900", y.sags(0, 1 + kind), 999900);
            Edges.due("by a cause, too", y.sags(1, 1 + kind), 1000000);
            y.weeks(1);
            Edges.due("cut", y.sags(0, 1 + kind), 1000000);
            SagGates z = Edges.told("law " + KINDS[kind] + " 4999 + (week >= 198) * 5000;gate a 24 24 20;");
            z.weeks(200);
            Edges.due("199 weeks of 4999 and more", z.sags(0, 1 + kind), 1000000);
            SagGates w = Edges.told("law " + KINDS[kind] + " 5000 - (week = 0);gate a 24 24 20;");
            w.weeks(200);
            Edges.due("999999", w.sags(0, 1 + kind), 999999);
        }
    }

    private static void namesOfLaws() {
        Edges.says("NAMES: pull; firm: that of the month and of stones; deep; thick; up, down: 1, if it has a brace that goes so");
        SagGates x = Edges.told("ground 1 2 3 4 5 6 7 8 9 10 11 99;law knock firm;law open down * 2 + up;" + Edges.GATE
            + "gate b 24 24 20 brace up;gate c 24 24 20 brace down;work s 1 stones 99;work t 1 stones 99;work b 1 brace;");
        Edges.due("firm", x.knock(0, 0), 1);
        x.work(0, 0);
        Edges.due("with stones", x.knock(0, 0), 100);
        x.work(0, 1);
        Edges.due("with more stones", x.knock(0, 0), 199);
        Edges.due("of another gate", x.knock(1, 0), 1);
        x.weeks(51);
        Edges.due("in week 51", x.knock(0, 0), 297);
        x.weeks(1);
        Edges.due("in week 52", x.knock(0, 0), 199);
        Edges.due("no brace", x.sags(0, 2), 0);
        Edges.due("brace up", x.sags(1, 2), 52);
        Edges.due("brace down", x.sags(2, 2), 104);
        x.work(2, 2);
        x.weeks(1);
        Edges.due("brace down, then up", x.sags(2, 2), 105);
        SagGates names = Edges.told("law lean thick;law open deep;law bend child;gate a 24 24 20 post 12 3;gate b 24 24 20 post 60 14 child 200;gate c 24 24 20;");
        int[][] due = {{3, 12, 0}, {14, 60, 200}, {8, 36, 0}};
        names.weeks(1);
        for (int gate = 0; gate < 3; gate++) {
            for (int what = 0; what < 3; what++) {
                Edges.due("thick, deep, child: sags(" + gate + ", " + (what + 1) + ")", names.sags(gate, what + 1), due[gate][what]);
            }
        }
        Edges.says("drop: DROP (below 0, too); week: n; child; fall: 0 (of a KNOCK as asked)");
        SagGates y = Edges.told("law knock drop;law lean fall + 1;law open 0 - drop;gate a 24 24 20 child 200;work w 1 wire 9999;");
        y.work(0, 0);
        Edges.due("below 0", y.knock(0, 0), -9999);
        y.weeks(1);
        Edges.due("in a week", y.sags(0, 2), 9999);
        Edges.due("fall in a week", y.sags(0, 1), 1);
        SagGates z = Edges.told("law knock week * 1000 + fall;" + Edges.GATE);
        Edges.due("week 0", z.knock(0, 99), 99);
        for (int i = 0; i < 3; i++) {
            z.weeks(520);
        }
        z.weeks(439);
        Edges.due("week 1999", z.knock(0, 99), 1999099);
        z.weeks(1);
        Edges.due("behind all weeks", z.knock(0, 0), 2000000);
    }

    private static void valuesOfLaws() {
        Edges.says("comparisons, and, or, not are 1 or 0 (what isn't 0 is as 1, both sides are worked out)");
        String[] ones = {"not 0", "5 or 0", "0 or 5", "0 - 1 or 0", "5 and 0 - 5", "1 < 2", "2 <= 2", "1 <= 2", "2 = 2", "1 <> 2", "2 <> 1", "2 >= 2", "3 >= 2", "3 > 2",
            "0 - 2 < 0 - 1", "not not 9999", "not (0 - 0)", "1 or 1 and 0", "not 0 and not 0", "not 1 = 2", "not 1 < 1"};
        String[] noughts = {"not 1", "not 9999", "not (0 - 1)", "0 or 0", "1 and 0", "0 and 1", "0 and 0", "2 < 2", "3 < 2", "3 <= 2", "2 = 3", "2 <> 2", "1 >= 2", "2 > 2", "1 > 2",
            "not not 0", "(1 or 1) and 0", "not 0 and 0", "not (0 or 1)", "not 2 = 2"};
        for (String law : ones) {
            Edges.due(law, Edges.value(law), 1);
        }
        for (String law : noughts) {
            Edges.due(law, Edges.value(law), 0);
        }
        for (String law : new String[] {"1 or 1 / 0", "1 / 0 or 1", "0 and 1 / 0", "1 / 0 and 0", "0 * (1 / 0)", "not (1 / 0)", "1 < 1 / 0"}) {
            Edges.due(law, Edges.value(law), Long.MIN_VALUE);
            Edges.due("growth by " + law, Edges.growth("lean", law), 0);
        }
        Edges.due("from the left", Edges.value("10 - 3 - 2"), 5);
        Edges.due("from the left", Edges.value("10 - 3 + 2"), 9);
        Edges.due("from the left", Edges.value("100 / 10 / 5"), 2);
        Edges.due("from the left", Edges.value("7 / 2 * 2"), 6);
        Edges.due("from the left", Edges.value("2 * 7 / 4"), 3);
    }

    private static void division() {
        Edges.says("/ is cut towards 0; ERROR: / by 0");
        int[][] divisions = {{7, 2, 3}, {6, 2, 3}, {1, 2, 0}, {0, 5, 0}, {9999, 1, 9999}, {1, 9999, 0}, {9999, 9999, 1}};
        for (int[] d : divisions) {
            Edges.due(d[0] + " / " + d[1], Edges.value(d[0] + " / " + d[1]), d[2]);
            Edges.due("- " + d[0] + " / " + d[1], Edges.value("(0 - " + d[0] + ") / " + d[1]), -d[2]);
            Edges.due(d[0] + " / - " + d[1], Edges.value(d[0] + " / (0 - " + d[1] + ")"), -d[2]);
            Edges.due("- " + d[0] + " / - " + d[1], Edges.value("(0 - " + d[0] + ") / (0 - " + d[1] + ")"), d[2]);
        }
        for (String law : new String[] {"1 / 0", "0 / 0", "5 / (3 - 3)", "1 / drop", "1 / (1 / 2)", "1 / not 1", "2 + 1 / 0"}) {
            String right = law.replace("/ not 1", "/ (not 1)");
            Edges.due(right, Edges.value(right), Long.MIN_VALUE);
        }
        Edges.due("10 to the 12 by 0 less 1", Edges.value(TRILLION + " / (0 - 1)"), -MOST);
    }

    private static void errorsAtTheEnds() {
        Edges.says("ERROR: a value above 10 to the 12 or below 0 by more than that");
        Edges.due("sum, just so", Edges.value(TRILLION + " + 0"), MOST);
        Edges.due("sum, one less", Edges.value(TRILLION + " - 1"), MOST - 1);
        Edges.due("sum, one more", Edges.value(TRILLION + " + 1"), Long.MIN_VALUE);
        Edges.due("sum from one less", Edges.value("(" + TRILLION + " - 1) + 1"), MOST);
        Edges.due("sum of the left", Edges.value("1 + " + TRILLION), Long.MIN_VALUE);
        Edges.due("difference, just so", Edges.value("0 - " + TRILLION), -MOST);
        Edges.due("difference, one more", Edges.value("0 - " + TRILLION + " - 1"), Long.MIN_VALUE);
        Edges.due("difference, one less", Edges.value("1 - " + TRILLION), 1 - MOST);
        Edges.due("sum below 0, one more", Edges.value("(0 - " + TRILLION + ") + (0 - 1)"), Long.MIN_VALUE);
        Edges.due("difference above", Edges.value(TRILLION + " - (0 - 1)"), Long.MIN_VALUE);
        Edges.due("product, just so", Edges.value("1000 * 1000 * (1000 * 1000)"), MOST);
        Edges.due("product below 0, just so", Edges.value("1000 * 1000 * (0 - 1000 * 1000)"), -MOST);
        Edges.due("product below 0 of the left, just so", Edges.value("(0 - 1000 * 1000) * (1000 * 1000)"), -MOST);
        Edges.due("product of both below 0, just so", Edges.value("(0 - 1000 * 1000) * (0 - 1000 * 1000)"), MOST);
        Edges.due("product, beyond", Edges.value("1000 * 1000 * (1000 * 1000 + 1)"), Long.MIN_VALUE);
        Edges.due("product below 0, beyond", Edges.value("(0 - 1000 * 1000) * (1000 * 1000 + 1)"), Long.MIN_VALUE);
        Edges.due("product of both below 0, beyond", Edges.value("(0 - 1000 * 1000 - 1) * (0 - 1000 * 1000)"), Long.MIN_VALUE);
        Edges.due("product beyond a long", Edges.value(TRILLION + " * (" + TRILLION + ")"), Long.MIN_VALUE);
        Edges.due("product that wraps to 0", Edges.value("8192 * 4096 * 8192 * (8192 * 4096 * 2048)"), Long.MIN_VALUE);
        Edges.due("product by 0", Edges.value(TRILLION + " * 0"), 0);
        Edges.due("product of 0", Edges.value("0 * (" + TRILLION + ")"), 0);
        Edges.due("product by 1", Edges.value("1 * (" + TRILLION + ")"), MOST);
    }

    private static void errorsWithin() {
        Edges.says("ERROR within an E is one of it");
        Edges.due("back below it", Edges.value(TRILLION + " + 1 - 1"), Long.MIN_VALUE);
        Edges.due("times 0", Edges.value("0 * (" + TRILLION + " + 1)"), Long.MIN_VALUE);
        Edges.due("compared", Edges.value(TRILLION + " * 2 > 1"), Long.MIN_VALUE);
        Edges.due("or", Edges.value("1 or " + TRILLION + " * 2"), Long.MIN_VALUE);
        Edges.due("and", Edges.value("0 and " + TRILLION + " * 2"), Long.MIN_VALUE);
        Edges.due("not", Edges.value("not " + TRILLION + " * 2"), Long.MIN_VALUE);
        Edges.due("in parens", Edges.value("((1 / 0) = 1) = 0"), Long.MIN_VALUE);
        SagGates x = Edges.told("law lean 1 / 0;law open 3;law knock 5;" + Edges.GATE);
        x.weeks(1);
        Edges.due("of another law is none of this", x.sags(0, 2), 3);
        Edges.due("of another law is none of knock", x.knock(0, 0), 5);
    }

    private static void sags() {
        Edges.says("Promise 10: Integer.MIN_VALUE: no such ones.");
        SagGates x = Edges.told("law open 1;" + Edges.GATE);
        x.weeks(1);
        for (int what : new int[] {-1, 8, 9, Edges.MAX, Edges.MIN}) {
            Edges.due("sags(0, " + what + ")", x.sags(0, what), Edges.MIN);
        }
        for (int gate : new int[] {-1, 1, 4, Edges.MAX, Edges.MIN}) {
            for (int what = -1; what <= 8; what++) {
                Edges.due("sags(" + gate + ", " + what + ")", x.sags(gate, what), Edges.MIN);
                Edges.due("sags(" + gate + ", " + what + ") without gates", new SagGates().sags(gate, what), Edges.MIN);
            }
        }
        Edges.says("A GATE has LEAN, SQUARE, HOOKS, LIFT (thousandths, 0 at first).");
        SagGates y = Edges.told(Edges.GATE);
        for (int what = 0; what <= 7; what++) {
            Edges.due("sags(0, " + what + ") at first", y.sags(0, what), 0);
        }
    }

    private static void latched() {
        Edges.says("LATCHED: DROP is between what the latch tells (less the rise, the drop).");
        int[][] latches = {{0, 0}, {0, 9999}, {9999, 0}, {1000, 1000}, {3, 7}};
        for (int[] latch : latches) {
            for (int drop : new int[] {-latch[0] - 1, -latch[0], -latch[0] + 1, 0, latch[1] - 1, latch[1], latch[1] + 1}) {
                // Opened by 9999 and by 1, then lifted as is due, so that any drop -9999 .. 10000 may be told.
                String gate = latch[0] == 1000 ? Edges.GATE : "gate a 24 24 20 latch " + latch[0] + " " + latch[1] + ";";
                int lift = 10000 - drop;
                SagGates x = Edges.told("law open 5000;" + gate + "work w 1 wire " + lift / 3 + ";work v 1 wire " + lift / 3 + ";work u 1 wire "
                    + (lift - 2 * (lift / 3)) + ";");
                x.weeks(2);
                for (int work = 0; work < 3; work++) {
                    x.work(0, work);
                }
                Edges.due("drop", x.sags(0, 0), drop);
                Edges.due("latch " + latch[0] + " " + latch[1] + ", drop " + drop, x.latched(0), drop >= -latch[0] && drop <= latch[1] ? 1 : 0);
            }
        }
        Edges.says("Promise 11: NONE: no such GATE.");
        SagGates x = Edges.told(Edges.GATE);
        for (int gate : new int[] {-1, 1, 4, Edges.MAX, Edges.MIN}) {
            Edges.due("latched(" + gate + ")", x.latched(gate), -1);
            Edges.due("latched(" + gate + ") without gates", new SagGates().latched(gate), -1);
        }
    }

    private static void gives() {
        Edges.says("GIVES: of LEAN, SQUARE, HOOKS' parts of DROP the greatest, of several the first.");
        int[][] cases = {{0, 0, 0, 0}, {1, 1, 1, 0}, {1, 1, 0, 0}, {1, 0, 1, 0}, {0, 1, 1, 1}, {0, 1, 0, 1}, {0, 0, 1, 2}, {1, 2, 2, 1}, {2, 1, 2, 0}, {2, 2, 1, 0}, {1, 2, 3, 2},
            {1, 1, 2, 2}, {2, 3, 1, 1}, {3, 2, 1, 0}};
        for (int[] c : cases) {
            SagGates x = Edges.told("law lean " + c[0] + ";law open " + c[1] + ";law bend " + c[2] + ";gate a 24 24 20 hooks 0 24 0 0;work w 1 wire 99;");
            x.weeks(1);
            Edges.due("gives by " + c[0] + ", " + c[1] + ", " + c[2], x.gives(0), c[3]);
            x.work(0, 0);
            Edges.due("whatever lifts it", x.gives(0), c[3]);
        }
        SagGates y = Edges.told("law lean 2;law open 3;law bend 1;gate a 48 24 20 hooks 0 24 0 0;gate b 24 24 20 hooks 12 18 0 0;");
        y.weeks(1);
        Edges.due("by parts of drop, not by lean itself", y.gives(0), 0);
        Edges.due("by parts of drop, not by hooks themselves", y.gives(1), 2);
        Edges.says("Promise 12: NONE: no such GATE.");
        for (int gate : new int[] {-1, 2, 4, Edges.MAX, Edges.MIN}) {
            Edges.due("gives(" + gate + ")", y.gives(gate), -1);
            Edges.due("gives(" + gate + ") without gates", new SagGates().gives(gate), -1);
        }
    }

    private static void worksOnce() {
        Edges.says("WORKS, each once on each GATE; Promise 13: false: no such ones, it was done on it.");
        SagGates x = Edges.told(FOUR + SIX);
        for (int gate = 0; gate < 4; gate++) {
            for (int work = 0; work < 6; work++) {
                Edges.yes("work(" + gate + ", " + work + ")", x.work(gate, work));
                Edges.no("work(" + gate + ", " + work + ") again", x.work(gate, work));
                Edges.due("works done", x.look(gate, 9), (2 << work) - 1);
            }
        }
        Edges.due("lift by one wire", x.sags(0, 4), 7);
        Edges.due("deep by one post", x.look(3, 5), 41);
        Edges.due("cost of all", x.count(8), 4 * 63);
        for (int wrong : new int[] {-1, 6, 7, 31, 32, Edges.MAX, Edges.MIN}) {
            Edges.no("work(0, " + wrong + ")", x.work(0, wrong));
            Edges.no("work(" + wrong + ", 0)", x.work(wrong, 0));
            Edges.no("work(" + wrong + ", " + wrong + ")", x.work(wrong, wrong));
        }
        Edges.no("work(4, 0)", x.work(4, 0));
        SagGates y = Edges.told(Edges.GATE);
        Edges.no("no works", y.work(0, 0));
        SagGates z = Edges.told("work a 1 brace;");
        Edges.no("no gates", z.work(0, 0));
        Edges.due("nothing to undo by it", z.count(7), 0);
    }

    private static void worksByKind() {
        Edges.says("brace: it has a brace that goes up; square: SQUARE 0; wire: LIFT so much more; wheel; stones; post: LEAN 0, DEEP so much more; rehang: HOOKS 0, LIFT so much more");
        String[] kinds = {"brace", "square", "wire 9999", "wire 0", "wheel 100", "wheel 0", "stones 99", "stones 0", "post 60", "post 0", "rehang 9999", "rehang 0"};
        // Of each: lean, square, hooks, lift, pull, deep, brace, firm.
        int[][] due = {{3, 4, 5, 0, 20, 60, 1, 50}, {3, 0, 5, 0, 20, 60, 2, 50}, {3, 4, 5, 9999, 20, 60, 2, 50}, {3, 4, 5, 0, 20, 60, 2, 50}, {3, 4, 5, 0, 0, 60, 2, 50},
            {3, 4, 5, 0, 20, 60, 2, 50}, {3, 4, 5, 0, 20, 60, 2, 149}, {3, 4, 5, 0, 20, 60, 2, 50}, {0, 4, 5, 0, 20, 120, 2, 50}, {0, 4, 5, 0, 20, 60, 2, 50},
            {3, 4, 0, 9999, 20, 60, 2, 50}, {3, 4, 0, 0, 20, 60, 2, 50}};
        for (int i = 0; i < kinds.length; i++) {
            SagGates x = Edges.told("law lean 3;law open 4;law bend 5;law knock firm;gate a 24 24 20 brace down post 60 8;work w 1 " + kinds[i] + ";");
            x.weeks(1);
            Edges.yes(kinds[i], x.work(0, 0));
            int[] got = {x.sags(0, 1), x.sags(0, 2), x.sags(0, 3), x.sags(0, 4), x.look(0, 4), x.look(0, 5), x.look(0, 7), (int) x.knock(0, 0)};
            for (int k = 0; k < got.length; k++) {
                Edges.due(kinds[i] + ", " + k, got[k], due[i][k]);
            }
        }
        SagGates y = Edges.told("law bend 1;" + Edges.GATE + "work a 1 wire 9999;work b 1 rehang 9999;work c 1 wire 9999;work d 1 rehang 9999;work e 1 wire 9999;work f 1 wire 9999;");
        for (int work = 0; work < 6; work++) {
            y.work(0, work);
        }
        Edges.due("all lifts", y.sags(0, 4), 59994);
        Edges.due("drop", y.sags(0, 0), -59994);
        SagGates z = Edges.told("law lean deep;gate a 24 24 20 post 60 8;work a 1 post 60;work b 1 post 60;work c 1 wheel 100;work d 1 wheel 0;");
        for (int work = 0; work < 4; work++) {
            z.work(0, work);
        }
        Edges.due("deeper than 60", z.look(0, 5), 180);
        z.weeks(1);
        Edges.due("deeper than 60 in a law", z.sags(0, 1), 180);
        Edges.due("the later wheel", z.look(0, 4), 20);
    }

    private static void undo() {
        Edges.says("Promise 14: The latest that can be undone is: how many are left; NONE: none.");
        Edges.due("undo() of a new object", new SagGates().undo(), -1);
        SagGates x = Edges.told("law lean 2;law open 3;law bend 4;gate a 24 24 20 brace down;" + SIX);
        x.weeks(1);
        Edges.due("none yet", x.undo(), -1);
        Edges.no("a work that is none", x.work(0, 6));
        Edges.due("none by that", x.undo(), -1);
        x.work(0, 5);
        Edges.no("a work done already", x.work(0, 5));
        Edges.due("one alone by that", x.undo(), 0);
        Edges.due("lean is back", x.sags(0, 1), 2);
        Edges.due("deep is back", x.look(0, 5), 36);
        Edges.due("none left", x.undo(), -1);
        for (int work = 0; work < 6; work++) {
            x.work(0, work);
        }
        int[] brace = {2, 1, 1, 1, 1, 1};
        int[] square = {3, 3, 0, 0, 0, 0};
        int[] lift = {0, 0, 0, 7, 7, 7};
        int[] pull = {20, 20, 20, 20, 15, 15};
        for (int left = 5; left >= 0; left--) {
            Edges.due("undo()", x.undo(), left);
            Edges.due("brace", x.look(0, 7), brace[left]);
            Edges.due("square", x.sags(0, 2), square[left]);
            Edges.due("lift", x.sags(0, 4), lift[left]);
            Edges.due("pull", x.look(0, 4), pull[left]);
            Edges.due("works done", x.look(0, 9), (1 << left) - 1);
        }
        Edges.yes("a work undone may be done", x.work(0, 3));
    }

    private static void undoOfMany() {
        Edges.says("What work() does can be undone, the latest first (20 at most");
        for (int done : new int[] {19, 20, 21, 22, 24}) {
            SagGates x = Edges.told(FOUR + SIX);
            for (int i = 0; i < done; i++) {
                x.work(i / 6, i % 6);
            }
            int most = Math.min(20, done);
            Edges.due("to undo of " + done, x.count(7), most);
            for (int left = most - 1; left >= 0; left--) {
                Edges.due("undo()", x.undo(), left);
                Edges.due("count(7)", x.count(7), left);
                int stay = done - most + left;
                Edges.due("the latest first", x.look(stay / 6, 9), (1 << stay % 6) - 1);
            }
            Edges.due("undo() of none", x.undo(), -1);
            Edges.due("those ahead stay", x.look(0, 9), (1 << done - most) - 1);
            Edges.yes("the last of those undone again", x.work(3, 5));
            Edges.due("to undo", x.count(7), 1);
        }
        SagGates y = Edges.told(Edges.GATE + SIX);
        for (int i = 0; i < 50; i++) {
            y.work(0, i % 6);
            Edges.due("undo()", y.undo(), 0);
        }
    }

    private static void undoBetweenWeeks() {
        Edges.says("what the WORK made of the GATE is as it was ahead of it, WEEKS between are as if none had gone by for that GATE");
        SagGates x = Edges.told("law lean 1;law open 10;law bend 100;law knock firm * 100 + week;gate a 24 24 20;gate b 24 24 20;work w 1 wire 5;work s 1 stones 9;");
        x.weeks(4);
        x.work(0, 0);
        x.weeks(3);
        x.work(0, 1);
        x.work(1, 1);
        x.weeks(2);
        Edges.due("undo()", x.undo(), 2);
        Edges.due("gate 1 as it was", x.sags(1, 1), 7);
        Edges.due("gate 0 not yet", x.sags(0, 1), 9);
        Edges.due("undo()", x.undo(), 1);
        Edges.due("gate 0 as it was", x.sags(0, 2), 70);
        Edges.due("with its wire", x.sags(0, 4), 5);
        Edges.due("undo()", x.undo(), 0);
        Edges.due("ahead of the wire", x.sags(0, 3), 400);
        Edges.due("no wire", x.sags(0, 4), 0);
        Edges.due("gate 1 stays", x.sags(1, 3), 700);
        Edges.due("the week that is next stays", x.count(4), 9);
        Edges.due("knock by that week", x.knock(0, 0), 5009);
        Edges.due("weeks(1)", x.weeks(1), 10);
        Edges.due("gate 0 goes on", x.sags(0, 1), 5);
        Edges.due("gate 1 goes on", x.sags(1, 1), 8);
    }

    private static void knock() {
        Edges.says("KNOCK: knock's E by a fall 0 .. 99; Promise 20: Long.MIN_VALUE: an ERROR, no such law, no such ones.");
        SagGates x = Edges.told("law knock 100 / (fall - 5) * fall;" + Edges.GATE);
        Edges.due("fall 0", x.knock(0, 0), 0);
        Edges.due("fall 4", x.knock(0, 4), -400);
        Edges.due("fall 5, an error", x.knock(0, 5), Long.MIN_VALUE);
        Edges.due("fall 6", x.knock(0, 6), 600);
        Edges.due("fall 99", x.knock(0, 99), 99);
        for (int fall : new int[] {-1, 100, Edges.MAX, Edges.MIN}) {
            Edges.due("fall " + fall, x.knock(0, fall), Long.MIN_VALUE);
        }
        for (int gate : new int[] {-1, 1, 4, Edges.MAX, Edges.MIN}) {
            Edges.due("gate " + gate, x.knock(gate, 6), Long.MIN_VALUE);
        }
        Edges.due("no law", Edges.told("law lean fall;law open fall;law bend fall;" + Edges.GATE).knock(0, 5), Long.MIN_VALUE);
        Edges.due("no gate", Edges.told("law knock 5;").knock(0, 5), Long.MIN_VALUE);
        Edges.due("below 0 stays", Edges.value("0 - 9999"), -9999);
        Edges.due("above 9999 stays", Edges.value("9999 * 9999"), 99980001);
        SagGates y = Edges.told("law knock fall;law lean fall;law open fall = 0;" + Edges.GATE);
        y.knock(0, 99);
        y.weeks(1);
        Edges.due("a knock is none of the weeks", y.sags(0, 1) + y.sags(0, 2), 1);
        Edges.due("a knock behind weeks", y.knock(0, 98), 98);
        Edges.due("lasts behind a knock", y.lasts(0, 5), 5);
    }

    private static void keep() {
        Edges.says("Promise 35: An IMAGE is kept (in place of one ahead): which WEEK is next.");
        SagGates x = Edges.told("law open 3;" + Edges.GATE + SIX);
        Edges.due("keep() at first", x.keep(), 0);
        x.weeks(520);
        Edges.due("keep() in place of it", x.keep(), 520);
        x.work(0, 1);
        x.weeks(10);
        Edges.due("keep() in place of that", x.keep(), 530);
        Edges.due("what can be undone stays", x.count(7), 1);
        x.undo();
        Edges.due("back()", x.back(), 530);
        Edges.due("the latest image", x.sags(0, 2), 30);
        SagGates y = new SagGates();
        Edges.due("keep() without gates", y.keep(), 0);
        y.weeks(5);
        Edges.due("back() without gates", y.back(), 0);
        SagGates z = Edges.told(Edges.GATE);
        for (int i = 0; i < 3; i++) {
            z.weeks(520);
        }
        z.weeks(440);
        Edges.due("keep() behind all weeks", z.keep(), 2000);
        Edges.due("back() behind all weeks", z.back(), 2000);
    }

    private static void back() {
        Edges.says("Promise 36: All is as in the IMAGE (MEASURES stay, nothing to undo then): which WEEK is next; NONE: there is none.");
        Edges.due("back() of a new object", new SagGates().back(), -1);
        SagGates x = Edges.told("cause c 1 open 5;law lean 1;law open 3;law bend 2;" + FOUR + SIX);
        Edges.due("back() without an image", x.back(), -1);
        x.weeks(2);
        x.work(1, 2);
        x.keep();
        x.weeks(3);
        for (int i = 0; i < 24; i++) {
            x.work(i % 4, i / 4);
        }
        x.measure(0, 0, 2, 3, 3);
        x.strike(0);
        x.known(1);
        for (int times = 0; times < 2; times++) {
            Edges.due("back()", x.back(), 2);
            Edges.due("week", x.count(4), 2);
            for (int gate = 0; gate < 4; gate++) {
                int[] got = {x.sags(gate, 1), x.sags(gate, 2), x.sags(gate, 3), x.sags(gate, 4), x.look(gate, 5), x.look(gate, 7), x.look(gate, 9), x.look(gate, 4)};
                int[] due = {2, 6, 4, gate == 1 ? 7 : 0, 36, 0, gate == 1 ? 4 : 0, 20};
                for (int k = 0; k < got.length; k++) {
                    Edges.due("gate " + gate + ", " + k, got[k], due[k]);
                }
            }
            Edges.due("cost", x.count(8), 4);
            Edges.due("measures stay", x.count(5), 2);
            Edges.due("known stays", x.count(6), 1);
            Edges.due("fits", x.fits(0), 2);
            Edges.due("nothing to undo", x.count(7), 0);
            Edges.due("undo()", x.undo(), -1);
            x.work(0, 0);
            x.weeks(7);
        }
        Edges.due("text(0)", x.text(0), 0);
        Edges.due("back() behind a new text", x.back(), -1);
    }

    private static void count() {
        Edges.says("Promise 37: NONE for another what.");
        SagGates x = Edges.told("cause c 1 lean 1;law lean 1 + 2;" + FOUR + SIX);
        for (int what : new int[] {-1, 9, 10, Edges.MAX, Edges.MIN}) {
            Edges.due("count(" + what + ")", x.count(what), -1);
            Edges.due("count(" + what + ") of a new object", new SagGates().count(what), -1);
        }
        Edges.says("Promise 37: 7 what can be undone, 8 COST of all that was done");
        Edges.due("at first", x.count(8), 0);
        x.work(0, 5);
        x.work(3, 5);
        x.work(3, 0);
        Edges.due("cost", x.count(8), 65);
        Edges.due("to undo", x.count(7), 3);
        x.undo();
        x.undo();
        Edges.due("cost behind undo", x.count(8), 32);
        Edges.due("to undo behind undo", x.count(7), 1);
        SagGates y = Edges.told(FOUR + "work a 999 brace;work b 999 brace;work c 999 brace;work d 999 brace;work e 999 brace;work f 999 brace;");
        for (int i = 0; i < 24; i++) {
            y.work(i % 4, i / 4);
        }
        Edges.due("cost of all", y.count(8), 24 * 999);
        Edges.due("to undo of all", y.count(7), 20);
    }
}
