import java.util.NoSuchElementException;

/** One method for each promise of the document: ordinary inputs, the edges it names, wrong inputs. */
public final class PromiseTest {
    private static final int MIN = Integer.MIN_VALUE;
    private static int wrong = 0;
    private static int promise = 0;

    private static void due(String what, long got, long want) {
        if (got != want) {
            wrong++;
            System.out.println("promise " + promise + ": " + what + " answered " + got + ", due is " + want);
        }
    }

    private static void yes(String what, boolean got) {
        due(what, got ? 1 : 0, 1);
    }

    private static void no(String what, boolean got) {
        due(what, got ? 1 : 0, 0);
    }

    private static void feed(SagGates x, String text) {
        for (int i = 0; i < text.length(); i += 20) {
            int[] n = new int[5];
            for (int k = 0; k < 20; k++) {
                n[k / 4] = n[k / 4] << 8 | (i + k < text.length() ? text.charAt(i + k) : ' ');
            }
            x.feed(n[0], n[1], n[2], n[3], n[4]);
        }
    }

    private static int tell(SagGates x, String text) {
        feed(x, text);
        return x.text(text.length());
    }

    private static SagGates told(String text) {
        SagGates x = new SagGates();
        int lines = tell(x, text);
        if (lines < 0) {
            due("text '" + text + "' with fault " + x.fault(0) + " at " + x.fault(1), lines, 0);
        }
        return x;
    }

    private static void faulty(String text, int fault, int place) {
        SagGates x = new SagGates();
        due("text '" + text + "'", tell(x, text), -1);
        due("fault of '" + text + "'", x.fault(0), fault);
        due("place in '" + text + "'", x.fault(1), place);
    }

    private static void good(String text, int lines) {
        SagGates x = new SagGates();
        due("text '" + text + "'", tell(x, text), lines);
        due("fault of '" + text + "'", x.fault(0), 0);
        due("place in '" + text + "'", x.fault(1), -1);
    }

    private static String repeat(String part, int times) {
        StringBuilder whole = new StringBuilder();
        for (int i = 0; i < times; i++) {
            whole.append(part);
        }
        return whole.toString();
    }

    /** 1 for IndexOutOfBoundsException, 2 for NoSuchElementException, 0 for none. */
    private static int thrownByLook(SagGates x, int gate, int what) {
        try {
            x.look(gate, what);
            return 0;
        } catch (IndexOutOfBoundsException e) {
            return 1;
        } catch (NoSuchElementException e) {
            return 2;
        }
    }

    private static final int A = 1 << 25;
    private static final String GATE = "gate a 24 24 20;";

    public static void main(String[] args) {
        newObject();
        feed();
        text();
        faultOfTokens();
        faultTooMuch();
        faultTold();
        faultOfLaws();
        named();
        look();
        works();
        firm();
        weeks();
        laws();
        lawsOfTheTextInUse();
        errors();
        sags();
        latched();
        gives();
        work();
        undo();
        lasts();
        least();
        way();
        enough();
        bears();
        knock();
        measure();
        strike();
        known();
        fits();
        odds();
        test();
        low();
        rest();
        shuts();
        above();
        opens();
        stand();
        first();
        wind();
        keep();
        back();
        count();
        System.out.println(wrong == 0 ? "all promises are kept" : wrong + " answers are not as due");
        System.exit(wrong == 0 ? 0 : 1);
    }

    private static void newObject() {
        promise = 1;
        SagGates x = new SagGates();
        for (int what = 0; what <= 8; what++) {
            due("count(" + what + ")", x.count(what), 0);
        }
        due("firm(1999)", x.firm(1999), 50);
        due("text(1)", x.text(1), -2);
        due("text(0)", x.text(0), 0);
        due("fault(1)", x.fault(1), -1);
    }

    private static void feed() {
        promise = 2;
        SagGates x = new SagGates();
        for (int i = 1; i <= 45; i++) {
            due("feed " + i, x.feed(0x20202020, 0x20202020, 0x20202020, 0x20202020, 0x20202020), 20 * i);
        }
        due("feed 46", x.feed(0, 0, 0, 0, 0), -1);
        due("text(901)", x.text(901), -2);
        due("text(900)", x.text(900), 0);
        due("feed behind", x.feed(0x67617465, 0x20612032, 0x34203234, 0x2032303b, -1), 20);
        due("text(16)", x.text(16), 1);
        due("the lowest byte is last", x.look(0, 2), 20);
    }

    private static void text() {
        promise = 3;
        SagGates x = told("cause c 2 open 5;" + GATE + "work w 3 brace;");
        due("n below 0", x.text(-1), -2);
        due("more than there is", x.text(1), -2);
        x.weeks(3);
        x.work(0, 0);
        x.measure(0, 0, 0, 0, 0);
        x.known(0);
        x.keep();
        due("a fault", tell(x, "gate"), -1);
        due("the tape is empty then", x.feed(0, 0, 0, 0, 0), 20);
        due("all stays: week", x.count(4), 3);
        due("all stays: undo", x.count(7), 1);
        due("all stays: measures", x.count(5), 1);
        due("all stays: known", x.count(6), 0);
        due("all stays: works done", x.look(0, 9), 1);
        due("all stays: image", x.back(), 3);
        due("the rest of the tape goes, too", x.text(0), 0);
        due("feed", x.feed(0, 0, 0, 0, 0), 20);
        due("no gates", x.count(0), 0);
        due("week 0", x.count(4), 0);
        due("no measures", x.count(5), 0);
        due("no image", x.back(), -1);
        due("nothing to undo", x.undo(), -1);
        good("", 0);
        good(" \n ", 0);
        good("gate\na 24 24\n20\n;", 1);
        good("gate a24 24 20hooks 0 1-1-1;", 1);
        good("law lean(1);", 1);
        good("gate a 024 00024 20;", 1);
        good("gate a 24 24 20;work a 1 brace;cause a 1 lean 1;", 3);
        SagGates y = told("gate a 24 24 20;");
        tell(y, "gate b 24 24 20;gate c 24 24 20;");
        due("known again by all", y.measure(0, 0, 0, 0, 0) + y.count(6), 1);
        due("the text in place of the one ahead", y.named(0, A), -1);
    }

    private static void faultOfTokens() {
        promise = 4;
        SagGates x = new SagGates();
        due("fault(0) at first", x.fault(0), 0);
        due("fault(1) at first", x.fault(1), -1);
        due("fault(2)", x.fault(2), -1);
        due("fault(-1)", x.fault(-1), -1);
        tell(x, "gate;");
        x.text(1);
        due("a text of -2 leaves it", x.fault(0), 1);
        due("a text of -2 leaves its place", x.fault(1), 4);
        faulty(";", 1, 0);
        faulty("5;", 1, 0);
        faulty(" lean;", 1, 1);
        faulty("gate a 24 24 20", 1, 15);
        faulty("gate a 24 24 20  ", 1, 17);
        faulty("gate\ta 24 24 20;", 1, 4);
        faulty("gate a 24 24 20;#", 1, 16);
        faulty("gate a 24 24 20;\u00e9", 1, 16);
        faulty("gate a 24 24 20;\u0000", 1, 16);
        faulty("Gate a 24 24 20;", 1, 0);
        faulty("gate abcdefg 24 24 20;", 1, 5);
        good("gate abcdef 24 24 20;", 1);
        for (String word : Model.LANGUAGE) {
            faulty("gate " + word + " 24 24 20;", 1, 5);
        }
        faulty("gate a 24 24;", 1, 12);
        faulty("gate a 24 24 20 up;", 1, 16);
        faulty("gate a 24 24 20 wire;", 1, 16);
        faulty("gate a 24 24 20 brace square;", 1, 22);
        faulty("gate a 24 24 20 hooks 1 2 3;", 1, 27);
        faulty("gate a 24 24 20 hooks 1 2 - - 3 0;", 1, 28);
        faulty("gate a 24 24 20 hooks - 1 2 0 0;", 1, 22);
        faulty("gate a 24 24 20 child - 1;", 1, 22);
        faulty("gate a 24 24 20 rise 0 0 0 0 0 0 0 0;", 1, 36);
        faulty("gate a 24 24 20 rise 0 0 0 0 0 0 0 0 0 0;", 1, 39);
        faulty("gate a 24 24 20 has 1;", 1, 20);
        faulty("gate a 24 24 20 has lean;", 1, 20);
        faulty("ground 1 2 3 4 5 6 7 8 9 10 11 12 13;", 1, 34);
        faulty("work w 5 wire;", 1, 13);
        faulty("work w 5 brace up;", 1, 15);
        faulty("work w 5 latch 1;", 1, 9);
        faulty("cause c 1 up 1;", 1, 10);
        faulty("cause c 1 lean;", 1, 14);
        faulty("law up 1;", 1, 4);
        faulty("law hooks 1;", 1, 4);
        faulty("law cause 1;", 1, 4);
        faulty("cause c 1 knock 1;", 1, 10);
        faulty("cause c 1 cause 1;", 1, 10);
        faulty("gate a 24 24 20 gap - 1;", 1, 20);
        faulty("gate a 24 24 20 latch - 1 1;", 1, 22);
        faulty("gate a 24 24 20 latch 1 - 1;", 1, 24);
        faulty("gate a 24 24 20 rise 0 - 1;", 1, 23);
        faulty("work w 5 wire - 1;", 1, 14);
        cutText("gate a 24 24 2000;", 15, 1, 15);
        cutText("gate a 24 24 2000;", 14, 2, 13);
        cutText("gateb 24 24 20;", 4, 1, 4);
        cutText("law lean 1<=2;", 11, 1, 11);
        faulty("law 1;", 1, 4);
        faulty("law lean;", 1, 8);
    }

    /** What stands on the tape behind the text's end is none of it. */
    private static void cutText(String tape, int length, int fault, int place) {
        SagGates x = new SagGates();
        feed(x, tape);
        due("text(" + length + ") of '" + tape + "'", x.text(length), -1);
        due("fault", x.fault(0), fault);
        due("place", x.fault(1), place);
    }

    private static void faultTooMuch() {
        promise = 4;
        faulty("gate a 145 24 20;", 2, 7);
        faulty("gate a 23 24 20;", 2, 7);
        faulty("gate a 24 23 20;", 2, 10);
        faulty("gate a 24 73 20;", 2, 10);
        faulty("gate a 24 24 401;", 2, 13);
        faulty("gate a 24 24 19;", 2, 13);
        faulty("gate a 99999999999999999999 24 20;", 2, 7);
        faulty("gate a 4294967320 24 20;", 2, 7);
        good("gate a 144 72 400;", 1);
        faulty("gate a 24 24 20 hooks 0 25 0 0;", 2, 24);
        faulty("gate a 24 24 20 hooks 24 24 0 0;", 2, 25);
        good("gate a 24 24 20 hooks 0 24 30 - 30;", 1);
        faulty("gate a 24 24 20 hooks 0 24 - 31 0;", 2, 29);
        faulty("gate a 24 24 20 hooks 0 24 0 31;", 2, 29);
        faulty("gate a 24 24 20 post 11 3;", 2, 21);
        faulty("gate a 24 24 20 post 61 3;", 2, 21);
        faulty("gate a 24 24 20 post 60 2;", 2, 24);
        faulty("gate a 24 24 20 post 60 15;", 2, 24);
        good("gate a 24 24 20 post 12 3;gate b 24 24 20 post 60 14;", 2);
        faulty("gate a 24 24 20 latch 10000 0;", 2, 22);
        faulty("gate a 24 24 20 latch 9999 10000;", 2, 27);
        faulty("gate a 24 24 20 child 201;", 2, 22);
        faulty("gate a 24 24 20 gap 10000;", 2, 20);
        faulty("gate a 24 24 20 rise 0 0 0 0 0 0 0 0 201;", 2, 37);
        good("gate a 24 24 20 latch 9999 0 child 200 gap 9999 rise 200 0 0 0 0 0 0 0 200;", 1);
        faulty("ground 1 2 3 4 5 6 7 8 9 10 11 100;", 2, 31);
        faulty("ground 0;", 2, 7);
        good("ground 99 1 1 1 1 1 1 1 1 1 1 99;", 1);
        faulty("work w 0 brace;", 2, 7);
        faulty("work w 1000 brace;", 2, 7);
        faulty("work w 1 wheel 101;", 2, 15);
        faulty("work w 1 wire 10000;", 2, 14);
        faulty("work w 1 rehang 10000;", 2, 16);
        faulty("work w 1 stones 100;", 2, 16);
        faulty("work w 1 post 61;", 2, 14);
        good("work a 999 wire 9999;work b 1 rehang 9999;work c 1 stones 99;work d 1 post 60;work e 1 wheel 100;", 5);
        faulty("cause c 0 lean 1;", 2, 8);
        faulty("cause c 100 lean 1;", 2, 8);
        faulty("cause c 99 lean 0;", 2, 16);
        faulty("cause c 99 lean 1000;", 2, 16);
        good("cause c 99 lean 999;", 1);
        String causes = "";
        for (char c = 'a'; c < 'g'; c++) {
            causes += "cause " + c + " 1 lean 1;";
        }
        good(causes, 6);
        faulty(causes + "cause a 1 lean 1;", 2, causes.length());
        faulty(causes + "cause", 2, causes.length());
        String works = "";
        for (char c = 'a'; c < 'g'; c++) {
            works += "work " + c + " 1 brace;";
        }
        good(works, 6);
        faulty(works + "work a 1 brace;", 2, works.length());
        String gates = "";
        for (char c = 'a'; c < 'e'; c++) {
            gates += "gate " + c + " 24 24 20;";
        }
        good(gates, 4);
        faulty(gates + "gate a 24 24 20;", 2, gates.length());
    }

    private static void faultTold() {
        promise = 4;
        String ground = "ground" + repeat(" 9", 12) + ";";
        faulty(ground + ground, 3, ground.length());
        faulty("gate a 24 24 20;gate a 24 24 20;", 3, 21);
        faulty("work a 1 brace;work a 1 brace;", 3, 20);
        faulty("cause a 1 lean 1;cause a 1 lean 1;", 3, 23);
        faulty("gate a 24 24 20 hooks 0 9 0 0 hooks", 3, 30);
        faulty("gate a 24 24 20 post 12 3 post 12 3;", 3, 26);
        faulty("gate a 24 24 20 latch 1 1 latch 1 1;", 3, 26);
        faulty("gate a 24 24 20 child 0 child 0;", 3, 24);
        faulty("gate a 24 24 20 gap 0 gap 0;", 3, 22);
        faulty("gate a 24 24 20 rise 0 0 0 0 0 0 0 0 0 rise", 3, 39);
        faulty("law bend 1;law bend x;", 3, 15);
        faulty("cause a 1 lean 1;gate a 24 24 20 has a brace up has a;", 3, 52);
        good("cause a 1 lean 1;cause b 1 lean 1;gate a 24 24 20 has a has b;gate b 24 24 20 has a;", 4);
        faulty("gate a 24 24 20 has b;cause b 1 lean 1;", 4, 20);
        faulty("work b 1 brace;gate a 24 24 20 has b;", 4, 35);
        faulty("cause ab 1 lean 1;gate a 24 24 20 has a;", 4, 38);
    }

    private static void faultOfLaws() {
        promise = 4;
        good("law lean not not 1 < 2 and 3 + 4 * (5 - 6) / 7 <> 8 or pull;", 1);
        faulty("law lean 1 < 2 < 3;", 1, 15);
        faulty("law lean 1 + 2 < 3 * 4 = 5;", 1, 23);
        good("law lean (1 < 2) < 3;", 1);
        good("law lean 1 < 2 and 3 < 4;", 1);
        good("law lean not 1 < 2;", 1);
        faulty("law lean not 1 < 2 < 3;", 1, 19);
        faulty("law lean 1 + not 2;", 1, 13);
        faulty("law lean 1 < not 2;", 1, 13);
        good("law lean (not 1) + 1;", 1);
        faulty("law lean - 1;", 1, 9);
        faulty("law lean 1 -;", 1, 12);
        faulty("law lean 1 - ", 1, 13);
        faulty("law lean 1 not 2;", 1, 11);
        faulty("law lean 1 2;", 1, 11);
        faulty("law lean 1 10000;", 1, 11);
        faulty("law lean 10000;", 2, 9);
        good("law lean 9999;", 1);
        faulty("law lean (1;", 1, 11);
        faulty("law lean (1", 1, 11);
        faulty("law lean 1);", 1, 10);
        faulty("law lean ();", 1, 10);
        faulty("law lean 1 < = 2;", 1, 13);
        faulty("law lean 1 =< 2;", 1, 12);
        faulty("law lean 1 >< 2;", 1, 12);
        faulty("law lean 1 => 2;", 1, 12);
        good("law lean 1<=2;law open 1>=2;law bend 1<>2;law knock 1=2;", 4);
        faulty("law lean gate;", 1, 9);
        good("law lean " + repeat("(", 8) + "1" + repeat(")", 8) + ";", 1);
        faulty("law lean " + repeat("(", 9) + "1" + repeat(")", 9) + ";", 2, 17);
        good("law lean " + repeat("((1))+", 9) + repeat("(", 8) + "1" + repeat(")", 8) + ";", 1);
        String full = "law lean 1" + repeat("+1", 31) + ";law bend not";
        faulty(full + " 1;", 2, full.length() + 1);
        good("law lean 1" + repeat("+1", 31) + ";law bend 1;", 2);
        faulty("law lean 1" + repeat("+1", 31) + ";law bend (1 < 2);", 2, 85);
        faulty("law lean 1" + repeat("+1", 31) + ";law bend 1 );", 1, 84);
        faulty("law lean 1" + repeat("+1", 31) + ";law bend 1;law knock x;", 1, 94);
        faulty("law lean 1" + repeat("+1", 31) + ";law bend 1;law knock 1;", 2, 94);
        good("law lean " + repeat("not ", 63) + "1;", 1);
        faulty("law lean " + repeat("not ", 64) + "1;", 2, 9 + 4 * 64);
    }

    private static void named() {
        promise = 5;
        SagGates x = told("cause a 1 lean 1;cause b 1 lean 1;gate b 24 24 20;gate a 24 24 20;gate zzzzzz 24 24 20;work ab 1 brace;");
        due("gate a", x.named(0, A), 1);
        due("gate b", x.named(0, 2 * A), 0);
        due("cause b", x.named(2, 2 * A), 1);
        due("work ab", x.named(1, A + (2 << 20)), 0);
        due("work a", x.named(1, A), -1);
        due("gate zzzzzz", x.named(0, 0x35ad6b5a), 2);
        due("no letters", x.named(0, 0), -1);
        due("below 0", x.named(0, -1), -1);
        due("behind the letters", x.named(0, A + 1), -1);
        due("what 3", x.named(3, A), -1);
        due("what -1", x.named(-1, A), -1);
    }

    private static void look() {
        promise = 6;
        SagGates x = told("cause p 1 lean 1;cause q 1 lean 1;gate a 100 50 90 child 30 has q post 40 9 brace down hooks 5 35 1 2;"
            + "gate b 24 30 20;work w 1 wheel 30;work v 1 post 7;work u 1 brace;");
        int[] want = {100, 50, 90, 30, 250, 40, 9, 2, 30, 0, 2};
        for (int what = 0; what < want.length; what++) {
            due("look(0, " + what + ")", x.look(0, what), want[what]);
        }
        int[] plain = {24, 30, 20, 18, 13, 36, 8, 0, 0, 0, 0};
        for (int what = 0; what < plain.length; what++) {
            due("look(1, " + what + ")", x.look(1, what), plain[what]);
        }
        x.work(0, 0);
        x.work(0, 1);
        x.work(0, 2);
        due("pull with a wheel", x.look(0, 4), 175);
        due("a deeper post", x.look(0, 5), 47);
        due("a brace up", x.look(0, 7), 1);
        due("works done", x.look(0, 9), 7);
        due("the other", x.look(1, 9), 0);
        due("gate 2", thrownByLook(x, 2, 0), 1);
        due("gate -1", thrownByLook(x, -1, 0), 1);
        due("gate 2, what 11", thrownByLook(x, 2, 11), 1);
        due("what 11", thrownByLook(x, 0, 11), 2);
        due("what -1", thrownByLook(x, 0, -1), 2);
        due("what 10", thrownByLook(x, 0, 10), 0);
    }

    private static void works() {
        promise = 7;
        SagGates x = told("work a 9 rehang 77;work b 10 stones 5;work c 11 square;");
        due("cost", x.works(0, 0), 9);
        due("rehang", x.works(0, 1), 6);
        due("number", x.works(0, 2), 77);
        due("stones", x.works(1, 1), 4);
        due("square", x.works(2, 1), 1);
        due("no number", x.works(2, 2), 0);
        due("no work", x.works(3, 0), -1);
        due("work -1", x.works(-1, 0), -1);
        due("what 3", x.works(0, 3), -1);
        due("what -1", x.works(0, -1), -1);
    }

    private static void firm() {
        promise = 8;
        SagGates x = told("ground 1 2 3 4 5 6 7 8 9 10 11 12;" + GATE + "work s 1 stones 9;");
        x.work(0, 0);
        due("week 0", x.firm(0), 1);
        due("week 4", x.firm(4), 1);
        due("week 5", x.firm(5), 2);
        due("week 47", x.firm(47), 11);
        due("week 48", x.firm(48), 12);
        due("week 51", x.firm(51), 12);
        due("week 52", x.firm(52), 1);
        due("week 1999", x.firm(1999), 6);
        due("week 2000", x.firm(2000), -1);
        due("week -1", x.firm(-1), -1);
    }

    private static void weeks() {
        promise = 9;
        SagGates x = told("law lean 1;" + GATE);
        due("0 more", x.weeks(0), 0);
        due("521", x.weeks(521), -1);
        due("-1", x.weeks(-1), -1);
        due("520", x.weeks(520), 520);
        due("520 more", x.weeks(520), 1040);
        due("520 more", x.weeks(520), 1560);
        due("beyond", x.weeks(441), -1);
        due("none goes by", x.sags(0, 1), 1560);
        due("440", x.weeks(440), 2000);
        due("1 more", x.weeks(1), -1);
        due("0 more", x.weeks(0), 2000);
        due("all went by", x.sags(0, 1), 2000);
        due("the last week", x.measure(0, 1999, 1, 2000, 2000), 0);
        due("fits", x.fits(0), 1);
        due("goes on for what is asked of weeks to come", x.lasts(0, 2009), 10);
    }

    private static void laws() {
        promise = 9;
        SagGates x = told("ground 10 20 30 40 50 60 70 80 90 91 92 93;law lean firm * 10 + deep;law open week * 100 + child;"
            + "law bend drop - 5;gate a 24 24 20 child 7 hooks 0 24 0 0;work s 1 stones 3;work p 1 post 4;");
        x.work(0, 0);
        x.work(0, 1);
        x.weeks(1);
        due("lean by firm, stones, deep", x.sags(0, 1), 170);
        due("open by week and child", x.sags(0, 2), 7);
        due("below 0 is 0", x.sags(0, 3), 0);
        x.weeks(1);
        due("lean", x.sags(0, 1), 340);
        due("open", x.sags(0, 2), 114);
        due("drop as when the week began", x.sags(0, 3), 172);
        x.weeks(4);
        due("the month has turned", x.sags(0, 1), 5 * 170 + 270);
        SagGates y = told("law lean up * 10 + down;law open thick * 100 + fall;law bend pull;gate a 144 24 400 brace up post 12 9;"
            + "gate b 24 24 20 brace down;gate c 24 24 20;");
        y.weeks(1);
        due("up", y.sags(0, 1), 10);
        due("down", y.sags(1, 1), 1);
        due("neither", y.sags(2, 1), 0);
        due("thick, no fall", y.sags(0, 2), 900);
        due("pull", y.sags(0, 3), 2400);
        SagGates z = told("cause c 1 bend 999;cause d 1 bend 1;cause e 1 open 7;law bend 9999 * 2;gate a 24 24 20 has d has c;gate b 24 24 20 has e;");
        z.weeks(1);
        due("9999 at most, and causes", z.sags(0, 3), 9999 + 1000);
        due("another gate's cause", z.sags(1, 3), 9999);
        due("a cause without a law", z.sags(1, 2), 7);
        z.weeks(89);
        due("not yet a million", z.sags(0, 3), 90 * 10999);
        z.weeks(10);
        due("a million at most", z.sags(0, 3), 1000000);
        due("the other one", z.sags(1, 3), 999900);
        z.weeks(1);
        due("the other one, too", z.sags(1, 3), 1000000);
    }

    private static void lawsOfTheTextInUse() {
        promise = 9;
        SagGates x = told("law bend 1;" + GATE);
        x.weeks(1);
        tell(x, "law bend 2;law open firm;" + GATE);
        x.weeks(1);
        due("another text's law", x.sags(0, 3), 2);
        due("another text's law by firm", x.sags(0, 2), 50);
        tell(x, "law bend 3 + ;" + GATE);
        x.weeks(1);
        due("a faulty text's law", x.sags(0, 3), 4);
        tell(x, "law open 1;" + GATE);
        x.weeks(1);
        due("no such law any more", x.sags(0, 3), 0);
        SagGates y = told("law lean 1" + repeat("+1", 31) + ";law bend 7;" + GATE);
        y.weeks(1);
        due("the first of 64 knots", y.sags(0, 1), 32);
        due("the last of 64 knots", y.sags(0, 3), 7);
    }

    private static void grows(String law, int want) {
        SagGates x = told("law lean " + law + ";law knock " + law + ";" + GATE);
        x.weeks(1);
        due("growth by " + law, x.sags(0, 1), want);
    }

    private static void knocks(String law, long want) {
        SagGates x = told("law knock " + law + ";" + GATE);
        due("value of " + law, x.knock(0, 7), want);
    }

    private static void errors() {
        promise = 20;
        grows("1 / 0", 0);
        grows("5 + 0 * (1 / 0)", 0);
        grows("7 or 1 / 0", 0);
        grows("0 and 1 / 0", 0);
        grows("3 * (1 < 2) + (2 <= 2) + (2 = 2) + (1 <> 2) + (2 >= 2) + (2 > 1)", 8);
        knocks("1 / 0", Long.MIN_VALUE);
        knocks("(0 - 7) / 2", -3);
        knocks("7 / (0 - 2)", -3);
        knocks("0 or 0", 0);
        knocks("0 - 1 or 0", 1);
        knocks("1 and 1", 1);
        knocks("1 and 0", 0);
        knocks("2 < 2", 0);
        knocks("3 <= 2", 0);
        knocks("3 = 2", 0);
        knocks("2 <> 2", 0);
        knocks("1 >= 2", 0);
        knocks("2 > 2", 0);
        knocks("0 or not 0", 1);
        knocks("1 and not 0", 1);
        knocks("1 + 2 < 2 + 2", 1);
        knocks("6 * 9 / 4", 13);
        knocks("10 - 3 - 2", 5);
        knocks("100 / 10 / 5", 2);
        knocks("2 + 3 * 4", 14);
        knocks("(2 + 3) * 4", 20);
        knocks("not 0", 1);
        knocks("not 5", 0);
        knocks("not not 5", 1);
        knocks("not 1 = 2", 1);
        knocks("not 0 and 0", 0);
        knocks("not (0 and 0)", 1);
        knocks("1 or 1 and 0", 1);
        knocks("(1 or 1) and 0", 0);
        knocks("5 and 7", 1);
        knocks("0 - 3 and 7", 1);
        knocks("1 + 1 = 2", 1);
        knocks("2 < 1 or 3 > 2", 1);
        knocks("1000 * 1000 * 1000 * 1000", 1000000000000L);
        knocks("1000 * 1000 * 1000 * 1000 + 1", Long.MIN_VALUE);
        knocks("1000 * 1000 * 1000 * 1000 + 1 - 1", Long.MIN_VALUE);
        knocks("1000 * 1000 * 1000 * 999 + 1000 * 1000 * 1000", 1000000000000L);
        knocks("1000 * 1000 * 1000 * 999 + 1000 * 1000 * 1000 + 1", Long.MIN_VALUE);
        knocks("0 - 1000 * 1000 * 1000 * 1000", -1000000000000L);
        knocks("0 - 1000 * 1000 * 1000 * 1000 - 1", Long.MIN_VALUE);
        knocks("1000 * 1000 * 1000 * 1000 * (1000 * 1000 * 1000 * 1000)", Long.MIN_VALUE);
        knocks("8192 * 4096 * 8192 * (8192 * 4096 * 2048)", Long.MIN_VALUE);
        knocks("1000 * 1000 * 1000 * 1000 * 0", 0);
        knocks("0 * (1000 * 1000 * 1000 * 1000)", 0);
        knocks(repeat("not ", 62) + repeat("(", 8) + "1" + repeat(")", 8), 1);
        knocks(repeat("not ", 63) + repeat("(", 8) + "1" + repeat(")", 8), 0);
        knocks(repeat("(", 8) + repeat("not ", 63) + "1" + repeat(")", 8), 0);
        knocks("1" + repeat("+1", 31), 32);
        knocks("fall", 7);
        knocks("week + firm + deep + thick + drop + child", 94);
    }

    private static final String PARTS = "law lean 5;law open 7;law bend 3;gate a 100 30 20 hooks 1 8 0 0;work w 1 wire 30;";

    private static void sags() {
        promise = 10;
        SagGates x = told(PARTS);
        due("at first", x.sags(0, 0), 0);
        x.weeks(2);
        x.work(0, 0);
        int[] want = {33 + 14 + 85 - 30, 10, 14, 6, 30, 33, 14, 85};
        for (int what = 0; what < want.length; what++) {
            due("sags(0, " + what + ")", x.sags(0, what), want[what]);
        }
        due("what 8", x.sags(0, 8), MIN);
        due("what -1", x.sags(0, -1), MIN);
        due("gate 1", x.sags(1, 0), MIN);
        due("gate -1", x.sags(-1, 0), MIN);
    }

    private static void latched() {
        promise = 11;
        SagGates x = told("law open 5;gate a 24 24 20 latch 3 10;work w 1 wire 13;work v 1 wire 1;");
        x.weeks(2);
        due("as far as it may drop", x.latched(0), 1);
        x.work(0, 0);
        due("as far as it may rise", x.latched(0), 1);
        x.work(0, 1);
        due("risen further", x.latched(0), 0);
        x.undo();
        x.undo();
        x.weeks(1);
        due("dropped further", x.latched(0), 0);
        due("gate 1", x.latched(1), -1);
        due("gate -1", x.latched(-1), -1);
        SagGates y = told("law open 500;" + GATE + "work w 1 wire 2001;");
        y.weeks(2);
        due("dropped by 1000 without", y.latched(0), 1);
        y.work(0, 0);
        due("risen by 1001", y.latched(0), 0);
        SagGates z = told("law open 1001;" + GATE + "work w 1 wire 2001;");
        z.weeks(1);
        due("dropped by 1001", z.latched(0), 0);
        z.work(0, 0);
        due("risen by 1000 without", z.latched(0), 1);
    }

    private static void gives() {
        promise = 12;
        SagGates x = told("cause l 1 lean 2;cause o 1 open 2;cause b 1 bend 1;gate a 24 24 20 has l has o has b;"
            + "gate b 24 24 20 has o has b;gate c 24 24 20 has b hooks 0 24 0 0;gate d 48 24 20 has l has o;");
        due("all alike", x.gives(0), 0);
        x.weeks(1);
        due("lean, of several the first", x.gives(0), 0);
        due("square", x.gives(1), 1);
        due("hooks", x.gives(2), 2);
        due("lean by its part", x.gives(3), 0);
        due("gate 4", x.gives(4), -1);
        due("gate -1", x.gives(-1), -1);
    }

    private static final String ALL_WORKS = "work a 1 brace;work b 2 square;work c 4 wire 7;work d 8 wheel 25;work e 16 stones 6;work f 32 post 5;";

    private static void work() {
        promise = 13;
        SagGates x = told("law lean 3;law open 4;law bend 5;law knock firm;gate a 96 48 100 brace down;gate b 24 24 20;" + ALL_WORKS);
        x.weeks(2);
        for (int w = 0; w < 6; w++) {
            yes("work(0, " + w + ")", x.work(0, w));
            no("again", x.work(0, w));
        }
        due("brace", x.look(0, 7), 1);
        due("square", x.sags(0, 2), 0);
        due("wire", x.sags(0, 4), 7);
        due("wheel", x.look(0, 4), 133 * 75 / 100);
        due("stones", x.knock(0, 0), 56);
        due("stones elsewhere", x.knock(1, 0), 50);
        due("post", x.sags(0, 1), 0);
        due("deep", x.look(0, 5), 41);
        due("hooks stay", x.sags(0, 3), 10);
        yes("on another gate", x.work(1, 2));
        no("no such work", x.work(0, 6));
        no("work -1", x.work(0, -1));
        no("no such gate", x.work(2, 0));
        no("gate -1", x.work(-1, 0));
        SagGates y = told("law bend 5;" + GATE + "work r 1 rehang 9;work w 1 wire 2;work p 1 wheel 10;work q 1 wheel 60;");
        y.weeks(2);
        yes("rehang", y.work(0, 0));
        due("hooks", y.sags(0, 3), 0);
        due("lift", y.sags(0, 4), 9);
        y.work(0, 1);
        due("lift so much more", y.sags(0, 4), 11);
        due("drop", y.sags(0, 0), -11);
        y.work(0, 2);
        y.work(0, 3);
        due("the latest wheel", y.look(0, 4), 20 * 40 / 100);
    }

    private static void undo() {
        promise = 14;
        String gates = "gate a 24 24 20;gate b 24 24 20;gate c 24 24 20;gate d 24 24 20;";
        SagGates x = told("law open 4;" + gates + ALL_WORKS);
        due("none", x.undo(), -1);
        for (int i = 0; i < 24; i++) {
            x.work(i / 6, i % 6);
        }
        due("20 at most", x.count(7), 20);
        x.weeks(1);
        for (int i = 19; i >= 0; i--) {
            due("undo", x.undo(), i);
            int done = i + 4;
            for (int gate = 0; gate < 4; gate++) {
                int works = Math.max(0, Math.min(6, done - 6 * gate));
                due("works done on " + gate + " with " + i + " left", x.look(gate, 9), (1 << works) - 1);
            }
        }
        due("none left", x.undo(), -1);
        due("the first four stay", x.look(0, 9), 15);
        due("none of the last", x.look(3, 9), 0);
        due("no week for the last", x.sags(3, 2), 0);
        due("but it went by", x.count(4), 1);
        due("cost", x.count(8), 15);
        SagGates y = told("law open 4;law lean 2;" + gates + ALL_WORKS);
        y.weeks(3);
        y.work(0, 1);
        y.work(1, 5);
        y.weeks(2);
        due("left", y.undo(), 1);
        due("lean as ahead of it", y.sags(1, 1), 6);
        due("square as ahead of it", y.sags(1, 2), 12);
        due("the other gate not yet", y.sags(0, 2), 8);
        due("others go on", y.sags(2, 2), 20);
        yes("can be done again", y.work(1, 5));
        due("left", y.undo(), 1);
        due("left", y.undo(), 0);
        due("square", y.sags(0, 2), 12);
    }

    private static void lasts() {
        promise = 15;
        SagGates x = told("law open 10;law bend week >= 5;gate a 24 24 20;work w 1 wire 50;gate b 24 24 20 hooks 0 24 0 0;");
        due("above 9", x.lasts(0, 9), 1);
        due("above 10", x.lasts(0, 10), 2);
        due("above -1", x.lasts(0, -1), 1);
        due("week 5 and on", x.lasts(1, 60), 6);
        x.weeks(1);
        due("from now on", x.lasts(1, 60), 5);
        due("the thousandth", x.lasts(1, 11005), 1000);
        due("never", x.lasts(1, 11006), 0);
        due("nothing went by", x.count(4), 1);
        due("nothing grew", x.sags(0, 2), 10);
        due("bound -99999", x.lasts(0, -99999), 1);
        due("bound 99999", x.lasts(0, 99999), 0);
        due("bound 100000", x.lasts(0, 100000), -1);
        due("bound -100000", x.lasts(0, -100000), -1);
        due("gate 2", x.lasts(2, 0), -1);
        due("gate -1", x.lasts(-1, 0), -1);
    }

    private static void least() {
        promise = 16;
        SagGates x = told("law open 10 - 5 * up;gate a 24 24 20;work w 5 wire 30;work b 3 brace;work s 2 square;work v 5 wire 30;");
        x.weeks(4);
        due("none needed", x.least(0, 2, 60, 0), 0);
        due("none needed: works", x.least(0, 2, 60, 1), 0);
        due("square", x.least(0, 2, 59, 0), 2);
        due("square: works", x.least(0, 2, 59, 1), 4);
        due("brace and square", x.least(0, 2, 19, 0), 5);
        due("of several the least bits", x.least(0, 2, -1, 0), 7);
        due("of several the least bits: works", x.least(0, 2, -1, 1), 5);
        due("all", x.least(0, 2, -50, 1), 15);
        due("no set", x.least(0, 2, -51, 0), -2);
        due("no set: works", x.least(0, 2, -51, 1), -2);
        due("n 0", x.least(0, 0, 39, 0), 2);
        x.work(0, 2);
        due("only those not yet done", x.least(0, 2, 10, 1), 2);
        due("n 520", x.least(0, 520, 99999, 0), 0);
        due("n 521", x.least(0, 521, 0, 0), -1);
        due("n -1", x.least(0, -1, 0, 0), -1);
        due("bound", x.least(0, 0, 100000, 0), -1);
        due("what 2", x.least(0, 0, 0, 2), -1);
        due("what -1", x.least(0, 0, 0, -1), -1);
        due("gate 1", x.least(1, 0, 0, 0), -1);
        due("nothing is done", x.look(0, 9), 4);
        SagGates y = told("law bend 1;" + GATE + "work p 9 wheel 0;");
        y.weeks(1);
        due("by their numbers", y.least(0, 0, 2, 0), 0);
    }

    private static void way() {
        promise = 17;
        SagGates x = told("law open 10 - 4 * up + 3 * down;gate a 24 24 20 brace down;gate b 24 24 20;");
        due("four weeks", x.way(0, 4), -28);
        due("without a brace", x.way(1, 4), -28);
        due("n 0", x.way(0, 0), 0);
        due("n 520", x.way(0, 520), -28 * 130);
        due("n 521", x.way(0, 521), MIN);
        due("n -1", x.way(0, -1), MIN);
        due("gate 2", x.way(2, 0), MIN);
        due("its own stays", x.look(0, 7), 2);
    }

    private static void enough() {
        promise = 18;
        SagGates x = told("law lean 60 - deep;gate a 24 24 20;gate b 24 24 20 post 12 8;work p 1 post 60;");
        due("ten a week", x.enough(0, 3, 30), 50);
        due("just below", x.enough(0, 3, 29), 51);
        due("0", x.enough(0, 3, 0), 60);
        due("any", x.enough(0, 3, 144), 12);
        due("not even 60", x.enough(0, 3, -1), -2);
        due("n 0", x.enough(0, 0, 0), 12);
        x.weeks(2);
        due("from now on", x.enough(0, 1, 48), 60);
        due("from now on, too little", x.enough(0, 1, 47), -2);
        due("n 521", x.enough(0, 521, 0), -1);
        due("n -1", x.enough(0, -1, 0), -1);
        due("bound", x.enough(0, 0, -100000), -1);
        due("gate 2", x.enough(2, 0, 0), -1);
        due("its own stays", x.look(0, 5), 36);
        SagGates y = told("law lean (deep - 30) * (deep - 30);" + GATE);
        due("not the deeper the better", y.enough(0, 1, 4), 28);
        SagGates z = told("law lean 5;" + GATE);
        due("deep doesn't matter", z.enough(0, 2, 10), 12);
        due("deep doesn't matter, too little", z.enough(0, 2, 9), -2);
    }

    private static void bears() {
        promise = 19;
        SagGates x = told("law open child / 2;gate a 24 24 20 child 50;gate b 24 24 20;");
        due("two weeks", x.bears(0, 2, 20), 21);
        due("0 itself", told("law open child * 9;" + GATE).bears(0, 1, 8), 0);
        due("all", x.bears(0, 2, 200), 200);
        due("just below", x.bears(0, 2, 199), 199);
        due("0", x.bears(0, 2, 1), 1);
        due("not even 0", x.bears(0, 2, -1), -2);
        due("n 0", x.bears(0, 0, 0), 200);
        due("n 521", x.bears(0, 521, 0), -1);
        due("n -1", x.bears(0, -1, 0), -1);
        due("bound", x.bears(0, 0, 100000), -1);
        due("gate 2", x.bears(2, 0, 0), -1);
        due("its own stays", x.look(0, 8), 50);
        SagGates y = told("law open pull;gate a 24 24 20;");
        due("by pull", y.bears(0, 1, 40), 10);
        due("by pull, twelve feet", told("law open pull;gate a 96 48 100;").bears(0, 1, 200), 25);
        SagGates z = told("law open (child - 90) * (child - 90);" + GATE);
        due("not the lighter the better", z.bears(0, 1, 4), 92);
        SagGates w = told("law open 5;" + GATE);
        due("no child matters", w.bears(0, 2, 10), 200);
        due("no child matters, too little", w.bears(0, 2, 9), -2);
    }

    private static void knock() {
        promise = 20;
        SagGates x = told("law knock fall * 100 + week;" + GATE);
        due("fall 0", x.knock(0, 0), 0);
        due("fall 99", x.knock(0, 99), 9900);
        x.weeks(3);
        due("now", x.knock(0, 1), 103);
        due("fall 100", x.knock(0, 100), Long.MIN_VALUE);
        due("fall -1", x.knock(0, -1), Long.MIN_VALUE);
        due("gate 1", x.knock(1, 1), Long.MIN_VALUE);
        due("gate -1", x.knock(-1, 1), Long.MIN_VALUE);
        due("no such law", told("law lean 1;" + GATE).knock(0, 1), Long.MIN_VALUE);
        SagGates y = told("law lean 1 + fall;law knock fall;" + GATE);
        y.knock(0, 50);
        y.weeks(1);
        due("a knock asked for is none of the weeks", y.sags(0, 1), 1);
    }

    private static void measure() {
        promise = 21;
        SagGates x = told(GATE);
        due("gate 1", x.measure(1, 0, 0, 0, 0), -1);
        due("gate -1", x.measure(-1, 0, 0, 0, 0), -1);
        due("week 2000", x.measure(0, 2000, 0, 0, 0), -1);
        due("week -1", x.measure(0, -1, 0, 0, 0), -1);
        due("what 4", x.measure(0, 0, 4, 0, 0), -1);
        due("what -1", x.measure(0, 0, -1, 0, 0), -1);
        due("low", x.measure(0, 0, 0, -10000000, 0), -1);
        due("high", x.measure(0, 0, 0, 0, 10000000), -1);
        due("high below low", x.measure(0, 0, 0, 1, 0), -1);
        due("the edges", x.measure(0, 1999, 3, -9999999, 9999999), 0);
        due("the edges, low", x.measure(0, 1999, 3, 9999999, 9999999), 1);
        for (int i = 2; i < 40; i++) {
            due("measure " + i, x.measure(0, 0, 0, 0, 0), i);
        }
        due("there are 40", x.measure(0, 0, 0, 0, 0), -1);
        due("no strike either", x.strike(0), -1);
        due("count", x.count(5), 40);
    }

    private static void strike() {
        promise = 22;
        SagGates x = told("cause c 1 open 5;" + GATE);
        due("none to strike", x.strike(0), -1);
        x.measure(0, 0, 2, 5, 5);
        due("fits", x.fits(0), 1);
        due("strike", x.strike(0), 1);
        due("struck", x.fits(0), 3);
        due("strike -1", x.strike(-1), -1);
        due("strike itself", x.strike(2), -1);
        due("the strike is struck", x.strike(1), 2);
        due("it counts again", x.fits(0), 1);
        due("and that one", x.strike(2), 3);
        due("struck again", x.fits(0), 3);
        due("another strike of the first", x.strike(0), 4);
        due("struck twice", x.strike(1), 5);
        due("still struck", x.fits(0), 3);
        for (int i = 6; i < 40; i++) {
            due("strike " + i, x.strike(i - 1), i);
        }
        due("there are 40", x.strike(0), -1);
    }

    private static void known() {
        promise = 23;
        SagGates x = told("cause c 1 open 5;" + GATE);
        no("none yet", x.known(1));
        yes("0", x.known(0));
        x.measure(0, 0, 2, 5, 5);
        x.strike(0);
        x.strike(1);
        due("by 0", x.fits(0), 3);
        yes("by 1", x.known(1));
        due("by 1", x.fits(0), 1);
        yes("by 2", x.known(2));
        due("by 2", x.fits(0), 3);
        due("by how many", x.count(6), 2);
        yes("by 3", x.known(3));
        due("by 3", x.fits(0), 1);
        x.strike(0);
        due("those to come don't count", x.fits(0), 1);
        no("by 5", x.known(5));
        no("by -2", x.known(-2));
        due("stays", x.count(6), 3);
        yes("by all", x.known(-1));
        due("by all", x.fits(0), 3);
        due("by how many, all", x.count(6), 4);
        x.strike(3);
        due("also those to come", x.fits(0), 1);
        due("by how many, all to come", x.count(6), 5);
    }

    private static final String CAUSES = "law lean 1;cause a 5 lean 10;cause b 7 open 20;cause c 9 bend 30;cause d 4 open 20;"
        + "gate g 24 24 20 has a brace up;gate h 24 24 20;work w 1 wire 500;";

    private static void fits() {
        promise = 24;
        SagGates x = told(CAUSES);
        due("nothing measured", x.fits(0), 31);
        x.weeks(5);
        x.work(0, 0);
        x.measure(0, 1, 1, 2, 2);
        due("not the one that leans", x.fits(0), 30);
        x.measure(0, 1, 0, 42, 42);
        due("drop in a run is without works", x.fits(0), 10);
        x.measure(1, 0, 3, 30, 30);
        due("of it alone", x.fits(0), 10);
        due("of the other", x.fits(1), 4);
        x.measure(0, 1500, 2, 30021, 30030);
        due("a week to come", x.fits(0), 0);
        x.strike(3);
        x.measure(0, 1500, 2, 30020, 30020);
        due("at both ends", x.fits(0), 10);
        due("gate 2", x.fits(2), -1);
        due("gate -1", x.fits(-1), -1);
        due("no causes", told(GATE).fits(0), 1);
    }

    private static void odds() {
        promise = 25;
        SagGates x = told(CAUSES);
        due("above", x.odds(0, 2, 0), 9);
        due("below", x.odds(0, 2, 1), 26);
        due("none above", x.odds(0, 4, 0), 1);
        due("none below", x.odds(0, 4, 1), 26);
        x.measure(0, 0, 2, 20, 20);
        due("not brought down", x.odds(0, 3, 0), 4);
        due("by those that fit", x.odds(0, 3, 1), 11);
        due("doesn't fit: above", x.odds(0, 0, 0), 0);
        due("doesn't fit: below", x.odds(0, 0, 1), 1);
        x.measure(0, 0, 2, 21, 21);
        due("none does: above", x.odds(0, 0, 0), 0);
        due("none does: below", x.odds(0, 0, 1), 0);
        due("cause 5", x.odds(0, 5, 0), -1);
        due("cause -1", x.odds(0, -1, 0), -1);
        due("what 2", x.odds(0, 0, 2), -1);
        due("what -1", x.odds(0, 0, -1), -1);
        due("gate 2", x.odds(2, 0, 0), -1);
    }

    private static void test() {
        promise = 26;
        SagGates x = told(CAUSES);
        due("as at first", x.test(0, 0), 0);
        due("as at first, all alike", x.test(0, 1), 26);
        x.weeks(1);
        due("drop parts most", x.test(0, 0), 0);
        due("the heaviest group", x.test(0, 1), 11);
        SagGates y = told("cause a 5 lean 24;cause b 7 open 24;cause c 2 open 23;gate g 24 24 20;");
        y.weeks(1);
        due("square parts more than drop", y.test(0, 0), 2);
        due("its heaviest group", y.test(0, 1), 7);
        y.measure(0, 0, 2, 23, 24);
        due("two fit", y.test(0, 1), 7);
        y.measure(0, 0, 2, 24, 24);
        due("one alone fits", y.test(0, 0), -1);
        y.measure(0, 0, 2, 23, 23);
        due("none fits", y.test(0, 0), -1);
        due("what 2", x.test(0, 2), -1);
        due("what -1", x.test(0, -1), -1);
        due("gate 2", x.test(2, 0), -1);
        due("gate -1", x.test(-1, 0), -1);
        due("no causes", told(GATE).test(0, 0), -1);
        SagGates w = told("cause a 5 lean 24;cause b 7 open 24;cause c 8 lean 25;cause d 2 open 25;gate g 24 24 20;");
        w.weeks(1);
        due("lean parts most", w.test(0, 0), 1);
        due("lean's heaviest group", w.test(0, 1), 10);
        SagGates v = told("cause a 5 lean 12;cause b 7 open 12;cause c 8 bend 6;gate g 24 24 20;");
        v.weeks(1);
        due("hooks part most", v.test(0, 0), 3);
        due("hooks' heaviest group", v.test(0, 1), 13);
        SagGates u = told("cause a 1 lean 1;cause b 2 lean 2;cause c 3 lean 3;cause d 4 lean 4;cause e 5 lean 5;cause f 9 lean 6;" + GATE);
        u.weeks(1);
        due("six causes and none", u.test(0, 1), 9);
        SagGates t = told("law open 5;cause a 1 lean 12;cause b 2 lean 15;cause c 3 lean 18;cause d 4 lean 21;cause e 5 lean 24;"
            + "cause f 9 lean 1;gate g 24 72 20;");
        t.weeks(1);
        due("none is grouped with one that it drops as far as", t.test(0, 0), 1);
        due("the heaviest without it", t.test(0, 1), 9);
        SagGates z = told("cause a 5 lean 1;cause b 7 lean 2;gate g 24 24 20;work p 1 post 0;");
        z.weeks(1);
        z.work(0, 0);
        due("by runs", z.test(0, 1), 7);
    }

    private static void low() {
        promise = 27;
        SagGates x = told("law lean 100;gate a 24 48 20 hooks 6 42 3 - 2;");
        due("at first", x.low(0, 1), 300 * 924 - 200 * 383);
        x.weeks(1);
        due("by lean", x.low(0, 0), 375000);
        due("at right angles", x.low(0, 4), -200000);
        due("wide open", x.low(0, 8), -375000);
        int[] c = {1000, 924, 707, 383, 0, -383, -707, -924, -1000};
        int[] s = {0, 383, 707, 924, 1000, 924, 707, 383, 0};
        for (int angle = 0; angle < 9; angle++) {
            due("angle " + angle, x.low(0, angle), 375 * c[angle] - 200 * s[angle]);
        }
        due("angle 9", x.low(0, 9), MIN);
        due("angle -1", x.low(0, -1), MIN);
        due("gate 1", x.low(1, 0), MIN);
        due("gate -1", x.low(-1, 0), MIN);
        SagGates y = told("law lean 9999;gate a 24 72 20 hooks 0 72 30 30;");
        y.weeks(101);
        due("a million", y.low(0, 0), 1003000000);
        due("a million, wide open", y.low(0, 8), -1003000000);
    }

    private static void rest() {
        promise = 28;
        SagGates x = told("gate a 24 24 20;gate b 24 24 20 hooks 0 9 0 5;gate c 24 24 20 hooks 0 9 - 5 0;gate d 24 24 20 hooks 0 9 5 5;");
        due("of several the first", x.rest(0), 0);
        due("aside", x.rest(1), 4);
        due("behind", x.rest(2), 8);
        due("between", x.rest(3), 2);
        due("gate 4", x.rest(4), -1);
        due("gate -1", x.rest(-1), -1);
    }

    private static void shuts() {
        promise = 29;
        SagGates x = told("gate a 24 24 20;gate b 24 24 20 hooks 0 9 5 0;gate c 24 24 20 hooks 0 9 10 - 5;gate d 24 24 20 hooks 0 9 5 5;");
        due("flat", x.shuts(0), 1);
        due("out", x.shuts(1), 511);
        due("aside the other way", x.shuts(2), 255);
        due("aside", x.shuts(3), 1);
        due("gate 4", x.shuts(4), -1);
        due("gate -1", x.shuts(-1), -1);
    }

    private static void above() {
        promise = 30;
        SagGates x = told("law open 50;gate a 100 30 20 hooks 1 8 - 3 0 gap 700 rise 0 0 1 0 0 0 0 0 200;");
        x.weeks(1);
        due("shut", x.above(0, 0), 650);
        due("cut towards 0", x.above(0, 2), 100 * -87900 / 7000 + 650 - 100);
        due("wide open", x.above(0, 8), 100 * -600000 / 7000 + 650 - 20000);
        due("angle 9", x.above(0, 9), MIN);
        due("angle -1", x.above(0, -1), MIN);
        due("gate 1", x.above(1, 0), MIN);
        SagGates y = told("law lean 9999;gate a 144 72 20 hooks 0 71 30 30;");
        y.weeks(101);
        long lowest = 1000L * (3000 + 1000000L * 71 / 72);
        due("a million", y.above(0, 8), 144 * 2 * lowest / 71000 + 3000 - 2000000);
    }

    private static void opens() {
        promise = 31;
        SagGates x = told("law open 50;gate a 24 24 20 gap 1000 rise 0 0 10 11 0 0 0 0 0;gate b 24 24 20 gap 0;gate c 24 24 20;");
        due("up to the first that is too high", x.opens(0), 2);
        due("0 at least", x.opens(1), 8);
        due("wide", x.opens(2), 8);
        x.weeks(1);
        due("dropped", x.opens(0), 1);
        due("not at 0", x.opens(1), -1);
        SagGates y = told("law open 1;gate a 24 24 20 gap 0;gate b 24 24 20 gap 1;");
        y.weeks(1);
        due("one thousandth too low", y.opens(0), -1);
        due("it just goes", y.opens(1), 8);
        due("gate 3", x.opens(3), -2);
        due("gate -1", x.opens(-1), -2);
    }

    private static void stand() {
        promise = 32;
        SagGates x = told("gate a 24 24 20;gate b 24 24 20 hooks 6 18 9 9 rise 0 0 0 0 50 0 0 0 0 gap 3000;gate c 24 24 20 gap 0 rise 1 0 0 0 0 0 0 0 0;");
        due("shut: any", x.stand(0, 0, 0), 0);
        due("shut: any", x.stand(0, 0, 1), 0);
        due("least out", x.stand(0, 1, 0), 0);
        due("least aside", x.stand(0, 1, 1), -1);
        due("half: least out", x.stand(0, 4, 0), 0);
        due("half: least aside", x.stand(0, 4, 1), -1);
        due("wide: out", x.stand(0, 8, 0), 1);
        due("wide: aside", x.stand(0, 8, 1), 0);
        due("over a rise", x.stand(1, 4, 0), 0);
        due("over a rise, aside", x.stand(1, 4, 1), -10);
        due("beyond a rise", x.stand(1, 5, 0), 2);
        due("beyond a rise, aside", x.stand(1, 5, 1), -8);
        due("none does", x.stand(2, 0, 0), MIN);
        SagGates y = told("gate a 24 24 20 rise 0 0 0 0 150 0 0 0 0;gate b 24 24 20 rise 0 0 0 0 151 0 0 0 0;"
            + "gate c 24 24 20 rise 0 0 0 0 0 0 0 0 150;law open 1;");
        due("as far out as may be", y.stand(0, 4, 0), 30);
        due("as far aside as may be", y.stand(0, 4, 1), -30);
        due("not even so", y.stand(1, 4, 0), MIN);
        due("out alone", y.stand(2, 8, 0), 30);
        due("not aside", y.stand(2, 8, 1), 0);
        y.weeks(1);
        due("one thousandth too low", y.stand(0, 4, 0), MIN);
        due("angle 9", x.stand(0, 9, 0), MIN);
        due("angle -1", x.stand(0, -1, 0), MIN);
        due("what 2", x.stand(0, 0, 2), MIN);
        due("what -1", x.stand(0, 0, -1), MIN);
        due("gate 3", x.stand(3, 0, 0), MIN);
        due("its own stays", x.low(1, 0), 900000);
    }

    private static void first() {
        promise = 33;
        due("no gates", new SagGates().first(1, 0), -1);
        SagGates x = told("cause s 1 open 10;gate a 24 24 20 has s latch 0 30;gate b 24 24 20 has s latch 0 10;gate c 24 24 20 latch 0 0;");
        due("sum", x.first(2, 0), 5);
        due("first", x.first(2, 1), 2);
        due("second, of several the first", x.first(2, 2), 0);
        due("third", x.first(2, 3), 1);
        due("what 4", x.first(2, 4), -1);
        due("what -1", x.first(2, -1), -1);
        due("t 0", x.first(0, 0), -1);
        due("t 101", x.first(101, 0), -1);
        SagGates y = told("cause s 1 open 10;gate a 24 24 20 has s latch 0 10;gate b 24 24 20 has s latch 0 40;");
        due("sum: the second one first", y.first(2, 0), 2);
        due("the second one first", y.first(2, 1), 1);
        due("then the first", y.first(2, 2), 0);
        y.weeks(3);
        due("from now on", y.first(1, 0), 1);
        due("from now on, first", y.first(1, 1), 0);
        due("from now on, second", y.first(1, 2), 1);
        due("nothing is made good", y.sags(0, 0), 30);
        SagGates w = told("law open 10 * (week = 5);gate a 24 24 20 latch 0 9;");
        w.weeks(4);
        due("weeks to come by their numbers", w.first(3, 0), 2);
        SagGates z = told("gate a 24 24 20 latch 0 0;work w 1 wire 5;");
        z.work(0, 0);
        due("risen, made good", z.first(100, 0), 0);
    }

    private static void wind() {
        promise = 34;
        SagGates x = told("law open child;gate a 24 24 20 child 1;");
        // The first numbers of seed 0 are 0, 21468, 9988, 22117, 3498, 16927, 16045, 19741, 12122, 8410.
        due("by 2", x.wind(0, 0, 1, 2, 1), 6);
        due("by 7", x.wind(0, 0, 1, 7, 1), 1);
        due("by 9 from seed 1", x.wind(0, 1, 9, 9, 109), windBy(1, 9, 9, 1, 109));
        due("by 5 from the last seed", x.wind(0, 2147483647, 30, 5, 630), windBy(2147483647, 30, 5, 1, 630));
        due("by 1", x.wind(0, 0, 1, 1, 100), 10);
        due("by 1, not above", x.wind(0, 0, 1, 1, 101), 0);
        due("two weeks, some", x.wind(0, 0, 2, 1, 201), 10);
        due("bound -99999", x.wind(0, 2147483647, 100, 99, -99999), 10);
        due("nothing went by", x.sags(0, 0), 0);
        due("its own stays", x.look(0, 8), 1);
        due("seed -1", x.wind(0, -1, 1, 1, 0), -1);
        due("n 0", x.wind(0, 0, 0, 1, 0), -1);
        due("n 101", x.wind(0, 0, 101, 1, 0), -1);
        due("w 0", x.wind(0, 0, 1, 0, 0), -1);
        due("w 100", x.wind(0, 0, 1, 100, 0), -1);
        due("bound 100000", x.wind(0, 0, 1, 1, 100000), -1);
        due("bound -100000", x.wind(0, 0, 1, 1, -100000), -1);
        due("gate 1", x.wind(1, 0, 1, 1, 0), -1);
    }

    /** Draws for a gate that opens by its child each week. */
    private static int windBy(long seed, int n, int w, int child, int bound) {
        int many = 0;
        for (int draw = 0; draw < 10; draw++) {
            int drop = 0;
            for (int week = 0; week < n; week++) {
                seed = (seed * 1103515245L + 12345) % 2147483648L;
                drop += seed / 65536 % w == 0 ? child + 100 : child;
            }
            many += drop > bound ? 1 : 0;
        }
        return many;
    }

    private static void keep() {
        promise = 35;
        SagGates x = told("law open 3;" + GATE);
        due("at first", x.keep(), 0);
        x.weeks(4);
        due("in place of one ahead", x.keep(), 4);
        x.weeks(2);
        due("back", x.back(), 4);
        due("as then", x.sags(0, 2), 12);
    }

    private static void back() {
        promise = 36;
        SagGates x = told("law open 3;law lean 2;gate a 24 24 20 brace down;gate b 24 24 20;" + ALL_WORKS);
        due("none", x.back(), -1);
        x.weeks(1);
        x.work(0, 2);
        x.keep();
        for (int w = 0; w < 6; w++) {
            x.work(0, w);
            x.work(1, w);
        }
        x.measure(0, 0, 0, 0, 0);
        x.known(0);
        x.weeks(5);
        due("back", x.back(), 1);
        due("works done", x.look(0, 9), 4);
        due("works done on the other", x.look(1, 9), 0);
        due("brace", x.look(0, 7), 2);
        due("deep", x.look(0, 5), 36);
        due("square", x.sags(0, 2), 3);
        due("lean", x.sags(0, 1), 2);
        due("lift", x.sags(0, 4), 7);
        due("cost", x.count(8), 4);
        due("measures stay", x.count(5), 1);
        due("known stays", x.count(6), 0);
        due("nothing to undo", x.undo(), -1);
        x.weeks(1);
        due("back again", x.back(), 1);
        yes("a work again", x.work(0, 0));
    }

    private static void count() {
        promise = 37;
        SagGates x = told("cause c 1 lean 1;law lean (1 + 2) * 3;gate a 24 24 20;gate b 24 24 20;work w 5 brace;work v 7 brace;work u 9 brace;");
        x.weeks(6);
        x.work(0, 0);
        x.work(1, 0);
        x.work(1, 2);
        x.measure(0, 0, 0, 0, 0);
        x.strike(0);
        int[] want = {2, 3, 1, 5, 6, 2, 2, 3, 19};
        for (int what = 0; what < want.length; what++) {
            due("count(" + what + ")", x.count(what), want[what]);
        }
        due("count(9)", x.count(9), -1);
        due("count(-1)", x.count(-1), -1);
        x.undo();
        due("cost behind undo", x.count(8), 10);
    }
}
