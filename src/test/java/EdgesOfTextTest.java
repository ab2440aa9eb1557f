/** Boundary cases of texts: the tape, tokens, lines, numbers, laws, faults and names (Terms; promises 1 to 5). */
public final class EdgesOfTextTest {
    private static final String[] LANGUAGE = ("ground law gate work cause lean open bend knock hooks post brace latch child gap rise has up down "
        + "square wire wheel stones rehang pull firm deep thick drop week fall and or not").split(" ");
    private static final String[] NAMES = "pull firm deep thick up down drop week child fall".split(" ");
    private static final String[] PARTS = {"hooks 0 9 0 0", "post 12 3", "brace up", "latch 1 1", "child 0", "gap 0", "rise 0 0 0 0 0 0 0 0 0"};
    private static final String START = "gate a 24 24 20 ";
    private static final String LAW_OF_63 = "law lean 1" + Edges.times("+1", 31);

    public static void main(String[] args) {
        newObject();
        feed();
        bytesOfTheTape();
        textByLength();
        textWithoutFault();
        textWithFault();
        textThatIsNone();
        fault();
        named();
        lines();
        words();
        namesOfTheText();
        digits();
        blanks();
        groundNumbers();
        gateNumbers();
        hookNumbers();
        partNumbers();
        workNumbers();
        causeNumbers();
        withoutParts();
        nothingOfTextsAhead();
        tooMany();
        whatMayStandInLaws();
        signsOfTwo();
        numbersOfLaws();
        openParens();
        knots();
        knotsBeyond();
        endOfText();
        noTokens();
        toldAlready();
        causesNotTold();
        firstAlongTheText();
        leastOfOnePlace();
        Edges.end("edges of texts");
    }

    private static void newObject() {
        Edges.says("Promise 1: A TEXT without LINES; an empty TAPE.");
        for (int what = 0; what <= 8; what++) {
            Edges.due("count(" + what + ")", new SagGates().count(what), 0);
        }
        Edges.due("text(0)", new SagGates().text(0), 0);
        Edges.due("text(1)", new SagGates().text(1), -2);
        Edges.due("feed", new SagGates().feed(0, 0, 0, 0, 0), 20);
        Edges.due("named(0, 0)", new SagGates().named(0, 0), -1);
        Edges.due("firm(0)", new SagGates().firm(0), 50);
        Edges.due("fault(0)", new SagGates().fault(0), 0);
        Edges.due("fault(1)", new SagGates().fault(1), -1);
    }

    private static void feed() {
        Edges.says("Promise 2: NONE, and none come, if it would have more than 900.");
        String text = Edges.times(" ", 884) + Edges.GATE;
        SagGates x = new SagGates();
        for (int from = 0; from < 900; from += 20) {
            Edges.due("feed", Edges.feedTwenty(x, text, from), from + 20);
        }
        Edges.due("feed beyond", x.feed(-1, -1, -1, -1, -1), -1);
        Edges.due("feed beyond again", x.feed(0, 0, 0, 0, 0), -1);
        Edges.due("text(901)", x.text(901), -2);
        Edges.due("feed beyond, still", x.feed(0, 0, 0, 0, 0), -1);
        Edges.due("text(900): its last byte counts, none came", x.text(900), 1);
        Edges.due("look(0, 2)", x.look(0, 2), 20);
        Edges.due("feed an empty tape", x.feed(0, 0, 0, 0, 0), 20);
        for (int i = 2; i <= 45; i++) {
            Edges.due("feed it full again", x.feed(0x20202020, 0x20202020, 0x20202020, 0x20202020, 0x20202020), 20 * i);
        }
        Edges.due("feed beyond", x.feed(0, 0, 0, 0, 0), -1);
        Edges.due("text(900): what was there first is gone", x.text(900) + 10 * x.fault(1), -1);
        Edges.due("fault(0): bytes of 0", x.fault(0), 1);
    }

    private static void bytesOfTheTape() {
        Edges.says("Promise 2: Twenty bytes come behind the TAPE, four of each number, the highest first");
        SagGates x = new SagGates();
        x.feed(0x67617465, 0x20612032, 0x34203235, 0x20323630, 0x3b200a20);
        Edges.due("text(20)", x.text(20), 1);
        Edges.due("height", x.look(0, 1), 25);
        Edges.due("weight", x.look(0, 2), 260);
        for (int sign : new int[] {0x8a, 0xa0, 0xb0, 0xbb, 0xe1, 0xfa, 0xff, 0x80, 0}) {
            SagGates y = new SagGates();
            y.feed(0x20202020, 0x20202000 | sign, 0x20202020, 0x20202020, 0x20202020);
            Edges.due("text with byte " + sign, y.text(20), -1);
            Edges.due("fault", y.fault(0), 1);
            Edges.due("place", y.fault(1), 7);
            y.feed(sign << 24 | 0x202020, 0x20202020, 0x20202020, 0x20202020, 0x20202020);
            Edges.due("text with byte " + sign + " highest", y.text(20), -1);
            Edges.due("place", y.fault(1), 0);
        }
    }

    private static void textByLength() {
        Edges.says("Promise 3: The TAPE's first n bytes (it is empty then) are the TEXT");
        SagGates x = new SagGates();
        Edges.feed(x, "gate a 24 24 20;gate b 24 24 20;        ");
        Edges.due("text(16)", x.text(16), 1);
        Edges.due("no second gate", x.count(0), 1);
        Edges.due("text(1)", x.text(1), -2);
        Edges.due("feed", x.feed(0, 0, 0, 0, 0), 20);
        Edges.due("text(0) of a tape of 20", x.text(0), 0);
        Edges.due("a text of no lines", x.count(0), 0);
        Edges.due("text(1) behind it", x.text(1), -2);
        Edges.due("feed behind it", x.feed(0, 0, 0, 0, 0), 20);
        SagGates y = new SagGates();
        Edges.feed(y, "gate a 24 24 20;    ");
        Edges.due("text(20), all of the tape", y.text(20), 1);
        SagGates z = new SagGates();
        Edges.feed(z, "gate a 24 24 2000;  ");
        Edges.due("text(15): digits beyond n are none of it", z.text(15), -1);
        Edges.due("fault", z.fault(0), 1);
        Edges.due("place", z.fault(1), 15);
        Edges.feed(z, "law lean 1<=2;      ");
        z.text(11);
        Edges.due("a sign's second half beyond n is none of it", z.fault(1), 11);
        Edges.feed(z, "gateb 24 24 20;     ");
        z.text(4);
        Edges.due("letters beyond n are none of it", z.fault(1), 4);
    }

    private static void textWithoutFault() {
        Edges.says("Promise 3: (WEEK 0 is next, nothing done, no MEASURES, all KNOWN, no IMAGE, nothing to undo then): how many LINES");
        SagGates x = busy();
        Edges.due("text", Edges.tell(x, GATES_TOLD), 6);
        Edges.due("week", x.count(4), 0);
        Edges.due("works done", x.look(0, 9), 0);
        Edges.due("square", x.sags(0, 2), 0);
        Edges.due("lift", x.sags(0, 4), 0);
        Edges.due("cost", x.count(8), 0);
        Edges.due("measures", x.count(5), 0);
        Edges.due("strike(0)", x.strike(0), -1);
        Edges.due("measure", x.measure(0, 0, 2, 9, 9), 0);
        Edges.due("known by all, those to come, too", x.count(6), 1);
        Edges.due("fits", x.fits(0), 2);
        Edges.due("to undo", x.count(7), 0);
        Edges.due("undo()", x.undo(), -1);
        Edges.due("back()", x.back(), -1);
        Edges.good("", 0);
        Edges.good(" ", 0);
        Edges.good("\n\n \n", 0);
        SagGates y = busy();
        Edges.due("text(0)", y.text(0), 0);
        for (int what = 0; what <= 8; what++) {
            Edges.due("count(" + what + ") behind a text of no lines", y.count(what), 0);
        }
        Edges.due("back() behind a text of no lines", y.back(), -1);
        Edges.due("firm behind a text of no lines", y.firm(0), 50);
        Edges.due("named behind a text of no lines", y.named(0, Edges.A), -1);
    }

    private static final String GATES_TOLD = "ground 7 7 7 7 7 7 7 7 7 7 7 7;law open 5;cause c 2 open 5;cause d 2 open 4;gate a 24 24 20 has c;work w 3 wire 2;";

    /** An object with all that a text may take away. */
    private static SagGates busy() {
        SagGates x = Edges.told(GATES_TOLD);
        x.weeks(3);
        x.work(0, 0);
        x.measure(0, 0, 2, 10, 10);
        x.measure(0, 0, 2, 0, 1);
        x.known(1);
        x.keep();
        return x;
    }

    private static void textWithFault() {
        Edges.says("Promise 3: NONE with a FAULT, all stays");
        String late = "ground 9 9 9 9 9 9 9 9 9 9 9 9;law open 1;law knock 1;cause e 1 lean 1;gate b 30 30 30;gate c 30 30 30;work v 1 brace;gate";
        SagGates x = busy();
        Edges.due("a fault at its very end", Edges.tell(x, late), -1);
        Edges.due("the tape is empty then", x.feed(0, 0, 0, 0, 0), 20);
        staysBusy(x);
        SagGates y = busy();
        Edges.due("a fault at its begin", Edges.tell(y, ";" + late), -1);
        Edges.due("and again", Edges.tell(y, late + ";"), -1);
        staysBusy(y);
    }

    private static void staysBusy(SagGates x) {
        int[] counts = {1, 1, 2, 1, 3, 2, 1, 1, 3};
        for (int what = 0; what < counts.length; what++) {
            Edges.due("count(" + what + ")", x.count(what), counts[what]);
        }
        Edges.due("firm", x.firm(0), 7);
        Edges.due("named a", x.named(0, Edges.A), 0);
        Edges.due("named b", x.named(0, 2 * Edges.A), -1);
        Edges.due("works done", x.look(0, 9), 1);
        Edges.due("height", x.look(0, 1), 24);
        Edges.due("drop", x.sags(0, 0), 28);
        Edges.due("fits by the first measure", x.fits(0), 1);
        Edges.due("no law of knocks", x.knock(0, 0), Long.MIN_VALUE);
        x.weeks(1);
        Edges.due("its laws and causes", x.sags(0, 2), 40);
        Edges.due("undo()", x.undo(), 0);
        Edges.due("back()", x.back(), 3);
        Edges.due("nothing undone in the image", x.look(0, 9), 1);
        Edges.due("undo() behind back()", x.undo(), -1);
    }

    private static void textThatIsNone() {
        Edges.says("Promise 3: -2, and the TAPE stays: there are not so many, n is below 0.");
        SagGates x = new SagGates();
        Edges.feed(x, "gate a 24 24 20;    ");
        for (int n : new int[] {21, 900, 901, Edges.MAX, -1, -20, Edges.MIN}) {
            Edges.due("text(" + n + ")", x.text(n), -2);
        }
        Edges.due("the tape stays", x.feed(0x20202020, 0x20202020, 0x20202020, 0x20202020, 0x20202020), 40);
        Edges.due("text(41)", x.text(41), -2);
        Edges.due("text(40)", x.text(40), 1);
        x.weeks(2);
        Edges.due("text(1) of none", x.text(1), -2);
        Edges.due("text(-1) of none", x.text(-1), -2);
        Edges.due("the text stays", x.count(0), 1);
        Edges.due("the week stays", x.count(4), 2);
    }

    private static void fault() {
        Edges.says("Promise 4: Of the latest text() that was not -2, what 0: its FAULT (0), 1: its place (NONE without). NONE for another what.");
        SagGates x = new SagGates();
        for (int what : new int[] {-1, 2, 3, Edges.MAX, Edges.MIN}) {
            Edges.due("fault(" + what + ")", x.fault(what), -1);
        }
        Edges.due("without a text", x.fault(0), 0);
        Edges.due("place without a text", x.fault(1), -1);
        Edges.tell(x, "ground 0;");
        Edges.due("fault", x.fault(0), 2);
        Edges.due("place", x.fault(1), 7);
        Edges.due("fault(2) with a fault", x.fault(2), -1);
        Edges.due("fault(-1) with a fault", x.fault(-1), -1);
        x.text(-1);
        x.text(1);
        Edges.due("fault behind -2", x.fault(0), 2);
        Edges.due("place behind -2", x.fault(1), 7);
        x.text(0);
        Edges.due("fault behind a text without", x.fault(0), 0);
        Edges.due("place behind a text without", x.fault(1), -1);
        Edges.tell(x, ";");
        Edges.due("place 0 is one", x.fault(1), 0);
        Edges.due("its fault", x.fault(0), 1);
        x.text(2);
        Edges.due("fault behind -2", x.fault(0), 1);
        SagGates y = new SagGates();
        y.text(1);
        Edges.due("fault behind -2 alone", y.fault(0), 0);
        Edges.due("place behind -2 alone", y.fault(1), -1);
    }

    private static int bits(String letters) {
        int bits = 0;
        for (int i = 0; i < 6; i++) {
            bits = bits << 5 | (i < letters.length() ? letters.charAt(i) - 'a' + 1 : 0);
        }
        return bits;
    }

    private static void named() {
        Edges.says("Promise 5: by its letters, 5 bits each (a is 1; the first one highest of six, 0 behind the last one); NONE: there is none such.");
        SagGates x = Edges.told("cause b 1 lean 1;cause zzzzzz 1 lean 1;gate a 24 24 20;gate z 24 24 20;gate ab 24 24 20;gate abcdef 24 24 20;"
            + "work zz 1 brace;work a 1 brace;");
        String[] gates = {"a", "z", "ab", "abcdef"};
        for (int i = 0; i < gates.length; i++) {
            Edges.due("gate " + gates[i], x.named(0, bits(gates[i])), i);
        }
        Edges.due("work zz", x.named(1, bits("zz")), 0);
        Edges.due("work a", x.named(1, bits("a")), 1);
        Edges.due("cause b", x.named(2, bits("b")), 0);
        Edges.due("cause zzzzzz", x.named(2, bits("zzzzzz")), 1);
        for (String letters : new String[] {"b", "abc", "abcde", "abcdeg", "zz", "aa"}) {
            Edges.due("gate " + letters, x.named(0, bits(letters)), -1);
        }
        Edges.due("a work's name is no cause's", x.named(2, bits("a")), -1);
        for (int letters : new int[] {0, 1, -1, Edges.MIN, Edges.MAX, bits("a") | 1 << 30, bits("a") | 1 << 31, bits("a") | 1, bits("a") >> 5}) {
            for (int what = 0; what <= 2; what++) {
                Edges.due("named(" + what + ", " + letters + ")", x.named(what, letters), -1);
            }
        }
        for (int what : new int[] {-1, 3, Edges.MAX, Edges.MIN}) {
            Edges.due("named(" + what + ", a)", x.named(what, bits("a")), -1);
        }
    }

    private static void lines() {
        Edges.says("A TEXT: { LINE ';' }. LINE: ..");
        Edges.faulty(";", 1, 0);
        Edges.faulty(" ;", 1, 1);
        Edges.faulty("gate a 24 24 20;;", 1, 16);
        Edges.faulty("gate a 24 24 20", 1, 15);
        Edges.faulty("gate a 24 24 20 work w 1 brace;", 1, 16);
        Edges.faulty("1;", 1, 0);
        Edges.faulty("a;", 1, 0);
        for (String word : LANGUAGE) {
            boolean begins = word.equals("ground") || word.equals("law") || word.equals("gate") || word.equals("work") || word.equals("cause");
            Edges.faulty(word + ";", 1, begins ? word.length() : 0);
        }
        Edges.says("ground N .. N (twelve)");
        Edges.faulty("ground" + Edges.times(" 9", 11) + ";", 1, 28);
        Edges.good("ground" + Edges.times(" 9", 12) + ";", 1);
        Edges.faulty("ground" + Edges.times(" 9", 13) + ";", 1, 31);
        Edges.says("rise N .. N (nine)");
        Edges.faulty(START + "rise" + Edges.times(" 9", 8) + ";", 1, 36);
        Edges.good(START + "rise" + Edges.times(" 9", 9) + ";", 1);
        Edges.faulty(START + "rise" + Edges.times(" 9", 10) + ";", 1, 39);
        Edges.says("gate W N N N { .. }");
        Edges.faulty("gate;", 1, 4);
        Edges.faulty("gate 24 24 20;", 1, 5);
        Edges.faulty("gate a;", 1, 6);
        Edges.faulty("gate a 24;", 1, 9);
        Edges.faulty("gate a 24 24;", 1, 12);
        Edges.faulty("gate a 24 24 20 20;", 1, 16);
        for (String word : LANGUAGE) {
            boolean part = String.join(" ", PARTS).contains(word) && !word.equals("up") || word.equals("has");
            Edges.faulty(START + word + " #", 1, part ? 17 + word.length() : 16);
        }
        Edges.says("brace up | brace down");
        Edges.good(START + "brace up;", 1);
        Edges.good(START + "brace down;", 1);
        Edges.faulty(START + "brace 1;", 1, 22);
        Edges.faulty(START + "brace left;", 1, 22);
        Edges.faulty(START + "brace wire;", 1, 22);
        Edges.faulty(START + "brace has;", 1, 22);
        Edges.faulty(START + "brace square;", 1, 22);
        Edges.says("work W N ( brace | square | wire N | wheel N | stones N | post N | rehang N )");
        for (String kind : new String[] {"brace", "square"}) {
            Edges.good("work w 1 " + kind + ";", 1);
            Edges.faulty("work w 1 " + kind + " 1;", 1, 10 + kind.length());
        }
        for (String kind : new String[] {"wire", "wheel", "stones", "post", "rehang"}) {
            Edges.good("work w 1 " + kind + " 1;", 1);
            Edges.faulty("work w 1 " + kind + ";", 1, 9 + kind.length());
            Edges.faulty("work w 1 " + kind + " - 1;", 1, 10 + kind.length());
            Edges.faulty("work w 1 " + kind + " 1 1;", 1, 12 + kind.length());
        }
        for (String word : LANGUAGE) {
            if (!" brace square wire wheel stones post rehang ".contains(" " + word + " ")) {
                Edges.faulty("work w 1 " + word + " 1;", 1, 9);
            }
        }
        Edges.faulty("work w brace;", 1, 7);
        Edges.faulty("work 1 brace;", 1, 5);
        Edges.says("law KIND E; KIND: lean | open | bend | knock; cause W N ( lean | open | bend ) N");
        for (String word : LANGUAGE) {
            boolean grows = word.equals("lean") || word.equals("open") || word.equals("bend");
            if (grows) {
                Edges.good("cause c 1 " + word + " 1;", 1);
            } else {
                Edges.faulty("cause c 1 " + word + " 1;", 1, 10);
            }
            if (grows || word.equals("knock")) {
                Edges.good("law " + word + " 1;", 1);
            } else {
                Edges.faulty("law " + word + " 1;", 1, 4);
            }
        }
        Edges.faulty("law lean;", 1, 8);
        Edges.faulty("law 1;", 1, 4);
        Edges.faulty("cause c 1 lean;", 1, 14);
        Edges.faulty("cause c lean 1;", 1, 8);
        Edges.faulty("cause 1 lean 1;", 1, 6);
    }

    private static void words() {
        Edges.says("Words: small letters in a row");
        Edges.faulty("Gate a 24 24 20;", 1, 0);
        Edges.faulty("gATE a 24 24 20;", 1, 0);
        Edges.faulty("ga te a 24 24 20;", 1, 0);
        Edges.faulty("ga\nte a 24 24 20;", 1, 0);
        Edges.faulty("gatea 24 24 20;", 1, 0);
        Edges.faulty("gate a_b 24 24 20;", 1, 6);
        Edges.faulty("gate A 24 24 20;", 1, 5);
        Edges.faulty("gate ` 24 24 20;", 1, 5);
        Edges.faulty("gate { 24 24 20;", 1, 5);
        Edges.faulty(START + "braceup;", 1, 16);
        Edges.good("gate az 24 24 20;", 1);
    }

    private static void namesOfTheText() {
        Edges.says("W: one of 1 .. 6 letters, none of those of the language");
        String[] before = {"gate ", "work ", "cause "};
        String[] after = {" 24 24 20;", " 1 brace;", " 1 lean 1;"};
        for (int i = 0; i < before.length; i++) {
            for (String name : new String[] {"a", "z", "az", "abcdef", "zzzzzz", "groun", "gates", "ups", "no", "an", "o", "laws"}) {
                Edges.good(before[i] + name + after[i], 1);
            }
            for (String name : new String[] {"abcdefg", "grounds", "abcdefghijklmnopqrstuvwxyz", "aaaaaaaaaaaaa"}) {
                Edges.faulty(before[i] + name + after[i], 1, before[i].length());
            }
            for (String word : LANGUAGE) {
                Edges.faulty(before[i] + word + after[i], 1, before[i].length());
            }
        }
        for (String word : LANGUAGE) {
            Edges.faulty("cause c 1 lean 1;" + START + "has " + word + ";", 1, 37);
        }
        Edges.faulty("cause c 1 lean 1;" + START + "has ccccccc;", 1, 37);
        Edges.faulty("cause c 1 lean 1;" + START + "has 1;", 1, 37);
        Edges.faulty("cause c 1 lean 1;" + START + "has;", 1, 36);
        Edges.good("cause cccccc 1 lean 1;" + START + "has cccccc;", 2);
    }

    private static void digits() {
        Edges.says("N: digits");
        Edges.good("gate a24 24 20;", 1);
        Edges.good("gate a 24 24 20brace up;", 1);
        Edges.good("gate a 24 24 020;", 1);
        Edges.good("gate a 24\n24 20;", 1);
        Edges.faulty("gate a 2 4 24 20;", 2, 7);
        Edges.faulty("gate a 24 24 +20;", 1, 13);
        Edges.faulty("gate a 24 24 -20;", 1, 13);
        Edges.faulty("gate a 24 24 20.5;", 1, 15);
        Edges.faulty("gate a 24,24 20;", 1, 9);
        Edges.faulty("gate a 24 24 0x20;", 2, 13);
        Edges.faulty("gate a 24/ 24 20;", 1, 9);
        Edges.faulty("gate a 24: 24 20;", 1, 9);
    }

    private static void blanks() {
        Edges.says("Blanks 10, 32.");
        Edges.good("\n gate\na\n\n24 24\n20 \n;\n", 1);
        Edges.good(" gate   a   24   24   20   ;   ", 1);
        for (int sign : new int[] {0, 1, 7, 8, 9, 11, 12, 13, 28, 31, 33, 95, 127, 128, 133, 138, 160, 255}) {
            Edges.faulty("gate" + (char) sign + "a 24 24 20;", 1, 4);
            Edges.faulty("gate a 24 24 20;" + (char) sign, 1, 16);
            Edges.faulty((char) sign + "gate a 24 24 20;", 1, 0);
        }
    }

    private static void groundNumbers() {
        Edges.says("ground: FIRM by months, 1 .. 99 each (50 without)");
        for (int month = 0; month < 12; month++) {
            String before = "ground " + Edges.times("5 ", month);
            String after = Edges.times(" 5", 11 - month) + ";";
            Edges.number(before, 1, 99, after);
            int week = (month * 52 + 11) / 12;
            for (int firm : new int[] {1, 99}) {
                SagGates x = Edges.told(before + firm + after);
                Edges.due("firm in month " + month, x.firm(week), firm);
                Edges.due("firm in the month ahead", x.firm((week + 51) % 52), 5);
            }
        }
        SagGates x = Edges.told(Edges.GATE);
        for (int week = 0; week < 52; week++) {
            Edges.due("firm without ground", x.firm(week), 50);
        }
    }

    private static void gateNumbers() {
        Edges.says("LENGTH 24 .. 144, HEIGHT 24 .. 72 (inches), WEIGHT 20 .. 400 (pounds)");
        Edges.number("gate a ", 24, 144, " 24 20;");
        Edges.number("gate a 24 ", 24, 72, " 20;");
        Edges.number("gate a 24 24 ", 20, 400, ";");
        int[][] gates = {{24, 24, 20}, {144, 72, 400}};
        for (int[] gate : gates) {
            SagGates x = Edges.told("gate a " + gate[0] + " " + gate[1] + " " + gate[2] + ";");
            for (int what = 0; what < 3; what++) {
                Edges.due("look(0, " + what + ")", x.look(0, what), gate[what]);
            }
        }
    }

    private static void hookNumbers() {
        Edges.says("hooks: how high the lower and the upper one are (0 .. HEIGHT, the upper above the lower; 6 and HEIGHT less 6 without)");
        for (int height : new int[] {24, 25, 72}) {
            String start = "gate a 24 " + height + " 20 hooks ";
            Edges.good(start + "0 " + height + " 0 0;", 1);
            Edges.good(start + (height - 1) + " " + height + " 0 0;", 1);
            Edges.faulty(start + "4294967296 " + height + " 0 0;", 2, start.length());
            Edges.faulty(start + height + " " + height + " 0 0;", 2, start.length() + 3);
            Edges.faulty(start + (height + 1) + " " + (height + 2) + " 0 0;", 2, start.length());
            Edges.number(start + "0 ", 1, height, " 0 0;");
            Edges.number(start + "7 ", 8, height, " 0 0;");
            Edges.number(start + (height - 1) + " ", height, height, " 0 0;");
            Edges.faulty(start + "9 8 0 0;", 2, start.length() + 2);
            Edges.due("span", Edges.told(start + "0 " + height + " 0 0;").look(0, 3), height);
            Edges.due("span", Edges.told(start + (height - 1) + " " + height + " 0 0;").look(0, 3), 1);
            Edges.due("span without", Edges.told("gate a 24 " + height + " 20;").look(0, 3), height - 12);
        }
        Edges.says("by how much the upper one stands OUT and ASIDE, tenths of inches, -30 .. 30 (0)");
        String start = START + "hooks 0 9 ";
        Edges.ends(start, 0, 30, " 0;");
        Edges.number(start + "- ", 0, 30, " 0;");
        Edges.ends(start + "0 ", 0, 30, ";");
        Edges.number(start + "0 -", 0, 30, ";");
        int[][] stands = {{30, 30}, {-30, -30}, {30, -30}, {0, 0}, {-1, 1}};
        for (int[] stand : stands) {
            SagGates x = Edges.told(start + stand[0] + " " + stand[1] + ";");
            Edges.due("out " + stand[0], x.low(0, 0), 100000L * stand[0]);
            Edges.due("aside " + stand[1], x.low(0, 4), 100000L * stand[1]);
        }
        Edges.due("out without", Edges.told(Edges.GATE).low(0, 0), 0);
        Edges.due("aside without", Edges.told(Edges.GATE).low(0, 4), 0);
        Edges.says("O: [ - ] N");
        Edges.good(start + "-1-1;", 1);
        Edges.good(start + "- 1\n-\n1;", 1);
        Edges.faulty(start + "- - 1 0;", 1, start.length() + 2);
        Edges.faulty(start + "+1 0;", 1, start.length());
        Edges.faulty(start + "-;", 1, start.length() + 1);
        Edges.faulty(start + "1 -;", 1, start.length() + 3);
        Edges.faulty(start + "1;", 1, start.length() + 1);
        Edges.faulty(START + "hooks -0 9 0 0;", 1, 22);
        Edges.faulty(START + "hooks 0 -9 0 0;", 1, 24);
    }

    private static void partNumbers() {
        Edges.says("post: DEEP 12 .. 60, THICK 3 .. 14 (36, 8)");
        Edges.number(START + "post ", 12, 60, " 3;");
        Edges.number(START + "post 12 ", 3, 14, ";");
        SagGates x = Edges.told("gate a 24 24 20 post 12 3;gate b 24 24 20 post 60 14;gate c 24 24 20;");
        int[] deep = {12, 60, 36};
        int[] thick = {3, 14, 8};
        for (int gate = 0; gate < 3; gate++) {
            Edges.due("deep", x.look(gate, 5), deep[gate]);
            Edges.due("thick", x.look(gate, 6), thick[gate]);
        }
        Edges.says("latch: how far it may have risen, dropped, 0 .. 9999 thousandths of inches (1000 each)");
        Edges.number(START + "latch ", 0, 9999, " 0;");
        Edges.number(START + "latch 0 ", 0, 9999, ";");
        Edges.faulty(START + "latch -1 0;", 1, 22);
        Edges.faulty(START + "latch 0 -1;", 1, 24);
        Edges.says("child: pounds 0 .. 200 (0)");
        Edges.number(START + "child ", 0, 200, ";");
        Edges.faulty(START + "child -1;", 1, 22);
        SagGates y = Edges.told("gate a 24 24 20 child 0;gate b 24 24 20 child 200;gate c 24 24 20;");
        Edges.due("child 0", y.look(0, 8), 0);
        Edges.due("child 200", y.look(1, 8), 200);
        Edges.due("child without", y.look(2, 8), 0);
        Edges.says("gap: thousandths under it 0 .. 9999 (3000)");
        Edges.number(START + "gap ", 0, 9999, ";");
        Edges.faulty(START + "gap -1;", 1, 20);
        SagGates z = Edges.told("gate a 24 24 20 gap 0;gate b 24 24 20 gap 9999;gate c 24 24 20;");
        Edges.due("gap 0", z.above(0, 0), 0);
        Edges.due("gap 9999", z.above(1, 0), 9999);
        Edges.due("gap without", z.above(2, 0), 3000);
        Edges.says("rise: of the ground at ANGLES 0 .. 8, tenths of inches 0 .. 200 (0)");
        for (int angle = 0; angle < 9; angle++) {
            String before = START + "rise " + Edges.times("0 ", angle);
            String after = Edges.times(" 0", 8 - angle) + ";";
            Edges.number(before, 0, 200, after);
            SagGates w = Edges.told(before + "200" + after);
            for (int other = 0; other < 9; other++) {
                Edges.due("rise at " + angle + ", above at " + other, w.above(0, other), other == angle ? 3000 - 20000 : 3000);
            }
        }
    }

    private static void workNumbers() {
        Edges.says("WORKS, at most 6: COST 1 .. 999; wire, rehang: thousandths 0 .. 9999; wheel: 0 .. 100 of 100; stones 0 .. 99; post 0 .. 60");
        Edges.number("work w ", 1, 999, " brace;");
        Edges.number("work w 1 wire ", 0, 9999, ";");
        Edges.number("work w 1 rehang ", 0, 9999, ";");
        Edges.number("work w 1 wheel ", 0, 100, ";");
        Edges.number("work w 1 stones ", 0, 99, ";");
        Edges.number("work w 1 post ", 0, 60, ";");
        SagGates x = Edges.told("work a 999 wire 9999;work b 1 rehang 9999;work c 2 wheel 100;work d 3 stones 99;work e 4 post 60;work f 5 wire 0;");
        int[] costs = {999, 1, 2, 3, 4, 5};
        int[] numbers = {9999, 9999, 100, 99, 60, 0};
        for (int work = 0; work < 6; work++) {
            Edges.due("cost", x.works(work, 0), costs[work]);
            Edges.due("number", x.works(work, 2), numbers[work]);
        }
    }

    private static void causeNumbers() {
        Edges.says("CAUSES, at most 6: a WEIGHT 1 .. 99, by how many thousandths a week more it leans, opens, bends, 1 .. 999");
        for (String kind : new String[] {"lean", "open", "bend"}) {
            Edges.number("cause c ", 1, 99, " " + kind + " 1;");
            Edges.number("cause c 1 " + kind + " ", 1, 999, ";");
        }
        SagGates x = Edges.told("cause a 1 lean 999;cause b 99 open 1;cause c 98 bend 999;gate a 24 24 20 has a has b has c;");
        Edges.due("weight 1", x.odds(0, 0, 0), 1);
        Edges.due("weight 99", x.odds(0, 1, 0), 99);
        Edges.due("all weights", x.odds(0, 2, 1), 199);
        x.weeks(1);
        Edges.due("leans", x.sags(0, 1), 999);
        Edges.due("opens", x.sags(0, 2), 1);
        Edges.due("bends", x.sags(0, 3), 999);
    }

    private static void withoutParts() {
        Edges.says("gate W N N N { hooks .. | post .. | brace .. | latch .. | child .. | gap .. | rise .. | has W }");
        String all = "cause p 1 lean 1;cause q 1 lean 1;" + START + "has q " + String.join(" ", PARTS) + " has p;";
        Edges.good(all, 3);
        String turned = START;
        for (int i = PARTS.length - 1; i >= 0; i--) {
            turned += PARTS[i] + " ";
        }
        Edges.good(turned + ";", 1);
        SagGates x = Edges.told(all + "gate b 30 30 20;");
        int[] plain = {30, 30, 20, 18, 16, 36, 8, 0, 0, 0, 0};
        for (int what = 0; what < plain.length; what++) {
            Edges.due("look(1, " + what + ") of a gate without parts behind one with all", x.look(1, what), plain[what]);
        }
        Edges.due("causes of the first", x.look(0, 10), 3);
        Edges.tell(x, "gate a 24 24 20;");
        int[] later = {24, 24, 20, 12, 20, 36, 8, 0, 0, 0, 0};
        for (int what = 0; what < later.length; what++) {
            Edges.due("look(0, " + what + ") in a later text", x.look(0, what), later[what]);
        }
    }

    private static void nothingOfTextsAhead() {
        Edges.says("The TAPE's first n bytes are the TEXT: nothing of texts ahead of it");
        String full = "ground 9 9 9 9 9 9 9 9 9 9 9 9;law lean 1;law open 2;law bend 3;law knock 4;cause c 5 lean 6;cause d 5 bend 6;work a 1 wheel 50;work b 1 stones 9;"
            + "gate a 48 48 100 hooks 1 9 7 - 8 post 40 9 brace down latch 5 6 child 10 gap 11 rise 1 2 3 4 5 6 7 8 9 has d has c;gate b 24 24 20;";
        String plain = "law knock pull * 100 + firm;work e 1 square;cause e 1 open 1;gate c 24 24 20;";
        SagGates x = new SagGates();
        // One after the other as often as this, so that whatever room a text is kept in, it was used ahead of it.
        for (int times = 0; times < 4; times++) {
            Edges.due("text of all parts", Edges.tell(x, full), 11);
            x.weeks(1);
            x.work(0, 0);
            x.work(0, 1);
            if (times % 2 == 1) {
                Edges.due("a faulty one", Edges.tell(x, full + "#"), -1);
            }
            for (int plains = 0; plains <= times; plains++) {
                Edges.due("text", Edges.tell(x, plain), 4);
                isPlain(x);
            }
        }
        Edges.says("The TAPE's first n bytes are the TEXT: nothing of faulty ones");
        SagGates y = new SagGates();
        String eight = "law lean ((((((((not 1";
        Edges.due("eight open", Edges.tell(y, eight), -1);
        Edges.due("a sign that waits", Edges.tell(y, "law lean 7 - 1 *"), -1);
        Edges.due("eight open again", Edges.tell(y, eight + "))))))));law open 9 * 9 - 8;" + Edges.GATE), 3);
        Edges.due("knots", y.count(3), 7);
        y.weeks(1);
        Edges.due("lean", y.sags(0, 1), 0);
        Edges.due("square", y.sags(0, 2), 73);
        for (int texts = 0; texts < 5; texts++) {
            Edges.due("64 knots", Edges.tell(y, LAW_OF_63 + ";law bend " + texts + ";" + Edges.GATE), 3);
            y.weeks(1);
            Edges.due("lean", y.sags(0, 1), 32);
            Edges.due("hooks", y.sags(0, 3), texts);
            Edges.due("65 knots", Edges.tell(y, LAW_OF_63 + ";law bend not 1;" + Edges.GATE), -1);
            Edges.due("its place", y.fault(1), LAW_OF_63.length() + 14);
        }
        Edges.due("told ahead in a faulty text", Edges.tell(y, "ground 1 1 1 1 1 1 1 1 1 1 1 1;law open 1;cause c 1 lean 1;gate a 24 24 20;work w 1 brace;#"), -1);
        Edges.due("told anew", Edges.tell(y, "ground 1 1 1 1 1 1 1 1 1 1 1 1;law open 1;cause c 1 lean 1;gate a 24 24 20;work w 1 brace;"), 5);
    }

    private static void isPlain(SagGates x) {
        int[] counts = {1, 1, 1, 5, 0, 0, 0, 0, 0};
        for (int what = 0; what < counts.length; what++) {
            Edges.due("count(" + what + ")", x.count(what), counts[what]);
        }
        int[] looks = {24, 24, 20, 12, 20, 36, 8, 0, 0, 0, 0};
        for (int what = 0; what < looks.length; what++) {
            Edges.due("look(0, " + what + ")", x.look(0, what), looks[what]);
        }
        Edges.due("firm", x.firm(0), 50);
        Edges.due("wheel, stones", x.knock(0, 0), 2050);
        for (int angle = 0; angle < 9; angle++) {
            Edges.due("above", x.above(0, angle), 3000);
            Edges.due("low", x.low(0, angle), 0);
        }
        x.weeks(1);
        Edges.due("laws and causes", x.sags(0, 0) + x.sags(0, 1) + x.sags(0, 2) + x.sags(0, 3), 0);
        Edges.due("named", x.named(0, Edges.A) + x.named(2, 4 * Edges.A), -2);
        Edges.due("works(0, 2)", x.works(0, 2), 0);
        Edges.due("odds of none", x.odds(0, 1, 1), 2);
    }

    private static void tooMany() {
        Edges.says("2 too much (at it): a fifth gate, seventh work, seventh cause (at the word of the LINE)");
        String gates = "";
        String works = "";
        String causes = "";
        for (char c = 'a'; c <= 'f'; c++) {
            gates += c <= 'd' ? "gate " + c + " 24 24 20;" : "";
            works += "work " + c + " 1 brace;";
            causes += "cause " + c + " 1 lean 1;";
        }
        String[] full = {gates, works, causes};
        String[] word = {"gate", "work", "cause"};
        String[] rest = {" g 24 24 20;", " g 1 brace;", " g 1 lean 1;"};
        for (int i = 0; i < 3; i++) {
            Edges.good(full[i], i == 0 ? 4 : 6);
            int place = full[i].length();
            Edges.faulty(full[i] + word[i] + rest[i], 2, place);
            Edges.faulty(full[i] + word[i], 2, place);
            Edges.faulty(full[i] + word[i] + " a" + rest[i], 2, place);
            Edges.faulty(full[i] + "\n " + word[i] + ";", 2, place + 2);
            Edges.faulty(full[i] + word[i] + "s" + rest[i], 1, place);
        }
        Edges.good(causes + gates + works, 16);
        SagGates x = Edges.told(causes + gates + works);
        Edges.due("gates", x.count(0), 4);
        Edges.due("works", x.count(1), 6);
        Edges.due("causes", x.count(2), 6);
    }

    private static void whatMayStandInLaws() {
        Edges.says("E: A { or A }. A: B { and B }. B: not B | C. C: S [ ( < | <= | = | <> | >= | > ) S ].");
        String[] comparisons = {"<", "<=", "=", "<>", ">=", ">"};
        for (String one : comparisons) {
            Edges.good("law lean 1 " + one + " 2;", 1);
            Edges.faulty("law lean 1 " + one + ";", 1, 11 + one.length());
            Edges.faulty("law lean " + one + " 1;", 1, 9);
            Edges.faulty("law lean 1 " + one + " not 2;", 1, 12 + one.length());
            for (String other : comparisons) {
                int place = 14 + one.length();
                Edges.faulty("law lean 1 " + one + " 2 " + other + " 3;", 1, place);
                Edges.faulty("law lean 1 " + one + " 2 + 5 " + other + " 3;", 1, place + 4);
                Edges.good("law lean (1 " + one + " 2) " + other + " 3;", 1);
                Edges.good("law lean 1 " + one + " (2 " + other + " 3);", 1);
                Edges.good("law lean 1 " + one + " 2 and 2 " + other + " 3;", 1);
                Edges.good("law lean 1 " + one + " 2 or not 2 " + other + " 3;", 1);
            }
        }
        Edges.says("S: T { ( + | - ) T }. T: P { ( * | / ) P }. P: N | NAME | '(' E ')'");
        for (String sign : new String[] {"+", "-", "*", "/"}) {
            Edges.good("law lean 1 " + sign + " 2 " + sign + " 3;", 1);
            Edges.faulty("law lean " + sign + " 1;", 1, 9);
            Edges.faulty("law lean (" + sign + " 1);", 1, 10);
            Edges.faulty("law lean 1 " + sign + ";", 1, 12);
            Edges.faulty("law lean 1 " + sign + " " + sign + " 1;", 1, 13);
            Edges.faulty("law lean 1 " + sign + " - 1;", 1, 13);
            Edges.faulty("law lean 1 " + sign + " not 1;", 1, 13);
            Edges.good("law lean 1 " + sign + " (not 1);", 1);
            Edges.faulty("law lean not " + sign + " 1;", 1, 13);
        }
        for (String word : new String[] {"and", "or"}) {
            Edges.faulty("law lean " + word + " 1;", 1, 9);
            Edges.faulty("law lean 1 " + word + ";", 1, 11 + word.length());
            Edges.faulty("law lean not " + word + " 1;", 1, 13);
            Edges.faulty("law lean 1 " + word + " " + word + " 1;", 1, 12 + word.length());
            Edges.good("law lean 1 " + word + " not not 1;", 1);
        }
        Edges.faulty("law lean 1 not 1;", 1, 11);
        Edges.faulty("law lean 1 2;", 1, 11);
        Edges.faulty("law lean pull firm;", 1, 14);
        Edges.faulty("law lean not;", 1, 12);
        Edges.faulty("law lean ();", 1, 10);
        Edges.faulty("law lean (1;", 1, 11);
        Edges.faulty("law lean 1);", 1, 10);
        Edges.faulty("law lean );", 1, 9);
        Edges.faulty("law lean (1));", 1, 12);
        Edges.faulty("law lean 1 (2);", 1, 11);
        Edges.faulty("law lean (1)(2);", 1, 12);
        Edges.faulty("law lean (1) 2;", 1, 13);
        Edges.faulty("law lean pull(1);", 1, 13);
        Edges.faulty("law lean (1 + );", 1, 14);
        Edges.good("law lean((1)+(2));", 1);
        Edges.says("NAME: pull firm deep thick up down drop week child fall");
        for (String word : LANGUAGE) {
            boolean name = String.join(" ", NAMES).contains(word);
            if (name) {
                Edges.good("law lean " + word + ";", 1);
                Edges.good("law lean 1 + (" + word + ");", 1);
            } else {
                Edges.faulty("law lean " + word + ";", 1, word.equals("not") ? 12 : 9);
                Edges.faulty("law lean 1 + " + word + ";", 1, 13);
            }
        }
        Edges.faulty("law lean a;", 1, 9);
        Edges.faulty("cause c 1 lean 1;law lean c;", 1, 26);
    }

    private static void signsOfTwo() {
        Edges.says("A = (or > behind <) right behind < or > belongs to it.");
        Edges.good("law lean 1<=2;law open 1>=2;law bend 1<>2;", 3);
        Edges.faulty("law lean 1 < = 2;", 1, 13);
        Edges.faulty("law lean 1 > = 2;", 1, 13);
        Edges.faulty("law lean 1 < > 2;", 1, 13);
        Edges.faulty("law lean 1 <\n> 2;", 1, 13);
        Edges.faulty("law lean 1 => 2;", 1, 12);
        Edges.faulty("law lean 1 =< 2;", 1, 12);
        Edges.faulty("law lean 1 == 2;", 1, 12);
        Edges.faulty("law lean 1 >< 2;", 1, 12);
        Edges.faulty("law lean 1 >> 2;", 1, 12);
        Edges.faulty("law lean 1 << 2;", 1, 12);
        Edges.faulty("law lean 1 <=> 2;", 1, 13);
        Edges.faulty("law lean 1 <>= 2;", 1, 13);
        Edges.faulty("law lean 1 <== 2;", 1, 13);
        Edges.faulty("law lean 1 != 2;", 1, 11);
        Edges.faulty("law lean 1 ! 2;", 1, 11);
        Edges.faulty("law lean 1 <", 1, 12);
        Edges.faulty("law lean 1 <=", 1, 13);
        Edges.due("2 <= 2", Edges.value("2<=2"), 1);
        Edges.due("2 >= 2", Edges.value("2>=2"), 1);
        Edges.due("2 <> 2", Edges.value("2<>2"), 0);
        Edges.due("1 <> 2", Edges.value("1<>2"), 1);
        Edges.due("3 <> 2", Edges.value("3<>2"), 1);
    }

    private static void numbersOfLaws() {
        Edges.says("N of E 0 .. 9999");
        for (String kind : new String[] {"lean", "open", "bend", "knock"}) {
            Edges.number("law " + kind + " ", 0, 9999, ";");
            Edges.number("law " + kind + " pull * (week + ", 0, 9999, ") or 1;");
        }
        Edges.due("0", Edges.value("0"), 0);
        Edges.due("9999", Edges.value("9999"), 9999);
        Edges.due("00009999", Edges.value("00009999"), 9999);
    }

    private static void openParens() {
        Edges.says("2 too much: a ninth '(' open");
        Edges.good("law lean " + Edges.times("(", 8) + "1" + Edges.times(")", 8) + ";", 1);
        Edges.faulty("law lean " + Edges.times("(", 9) + "1" + Edges.times(")", 9) + ";", 2, 17);
        Edges.faulty("law lean " + Edges.times("(", 9), 2, 17);
        Edges.faulty("law lean " + Edges.times("( ", 20), 2, 25);
        Edges.faulty("law lean " + Edges.times("(1+", 8) + "(1" + Edges.times(")", 9) + ";", 2, 33);
        Edges.faulty("law lean " + Edges.times("(not ", 8) + "(1" + Edges.times(")", 9) + ";", 2, 49);
        Edges.good("law lean " + Edges.times("(", 8) + "1" + Edges.times(")", 8) + "+" + Edges.times("(", 8) + "1" + Edges.times(")", 8) + ";", 1);
        Edges.good("law lean " + Edges.times("(", 7) + "(1)+(1)+(1)" + Edges.times(")", 7) + ";", 1);
        Edges.faulty("law lean " + Edges.times("(", 7) + "(1)+((1))" + Edges.times(")", 7) + ";", 2, 21);
        Edges.good(Edges.times("law lean ((((((((1))))))));", 1) + "law open ((((((((1))))))));", 2);
        Edges.good("law lean " + Edges.times("(1)+", 31) + "(1);", 1);
        Edges.due("a value in eight", Edges.value("((((((((5 - 3))))))))"), 2);
        Edges.due("a value of eight", Edges.value("(1+(1+(1+(1+(1+(1+(1+(1+1))))))))"), 9);
    }

    private static void knots() {
        Edges.says("a 65th KNOT of all E (N, NAMES, signs, not, and, or: one each)");
        String[] laws = {"1", "pull", "1 + 1", "not 1", "1 and 1", "1 or 1", "1 < 1", "1 <= 1", "1 = 1", "1 <> 1", "1 >= 1", "1 > 1", "(1)", "((1) - (1))",
            "1 * 1 / 1 - 1", "not not pull"};
        int[] knots = {1, 1, 3, 2, 3, 3, 3, 3, 3, 3, 3, 3, 1, 3, 7, 3};
        for (int i = 0; i < laws.length; i++) {
            Edges.due("knots of " + laws[i], Edges.told("law lean " + laws[i] + ";").count(3), knots[i]);
            Edges.due("knots of twice " + laws[i], Edges.told("law lean " + laws[i] + ";law knock " + laws[i] + ";").count(3), 2 * knots[i]);
        }
        String[] last = {"1", "9999", "pull", "fall", "(((((((( 1 ))))))))"};
        for (String value : last) {
            SagGates x = Edges.told(LAW_OF_63 + ";law bend " + value + ";" + Edges.GATE);
            Edges.due("64 knots", x.count(3), 64);
        }
        Edges.due("64 knots, a sign the last written", Edges.told("law lean not 1" + Edges.times("-1", 31) + ";").count(3), 64);
        Edges.due("64 knots of not", Edges.value(Edges.times("not ", 63) + "1"), 0);
        for (int nots = 60; nots <= 63; nots++) {
            String many = Edges.times("not ", nots);
            Edges.due(nots + " not in eight parens", Edges.value("((((((((" + many + "1))))))))"), 1 - nots % 2);
            Edges.due(nots + " not of eight parens", Edges.value(many + "((((((((1))))))))"), 1 - nots % 2);
            Edges.due(nots + " not of eight parens, of 0", Edges.value(many + "((((((((0))))))))"), nots % 2);
        }
        Edges.due("63 knots of sums", Edges.value("1" + Edges.times("+1", 31)), 32);
        Edges.due("sums in parens from the right", Edges.value(Edges.times("1+(", 8) + "1" + Edges.times("+1", 23) + Edges.times(")", 8)), 32);
    }

    private static void knotsBeyond() {
        Edges.says("2 too much (at it): a 65th KNOT");
        String start = LAW_OF_63 + ";law bend not ";
        for (String knot : new String[] {"1", "9999", "pull", "fall", "not 1", "not"}) {
            Edges.faulty(start + knot + ";", 2, start.length());
        }
        Edges.faulty(start + "(1);", 2, start.length() + 1);
        Edges.faulty(start + "((((((((1))))))));", 2, start.length() + 8);
        String full = "law lean not 1" + Edges.times("+1", 31) + " ";
        for (String knot : new String[] {"+", "-", "*", "/", "<", "<=", "=", "<>", ">=", ">", "and", "or"}) {
            Edges.faulty(full + knot + " 1;", 2, full.length());
            Edges.faulty(full + knot, 2, full.length());
        }
        Edges.good(full + ";", 1);
        Edges.faulty(full + ";law bend 1;", 2, full.length() + 10);
        Edges.faulty(full + ";law bend (not 1);", 2, full.length() + 11);
        Edges.faulty("law lean 1;law open " + Edges.times("not ", 64) + "1;", 2, 20 + 4 * 63);
    }

    private static final String[] TOKENS = ("ground 1 2 3 4 5 6 7 8 9 10 11 12 ; law lean not ( pull + 5 ) < 2 and 1 ; cause c 3 open 7 ; "
        + "gate g 96 48 100 hooks 6 42 0 - 5 post 36 8 brace down latch 500 2000 child 0 gap 3000 rise 0 0 0 0 0 0 0 0 9 has c ; "
        + "work w 20 brace ; work v 30 square ; work u 10 wire 500 ; law knock fall ;").split(" ");

    private static void endOfText() {
        Edges.says("1 a TOKEN that .. can't stand there (the length, if more must come)");
        String text = "";
        int lines = 0;
        for (String token : TOKENS) {
            text += (text.isEmpty() ? "" : " ") + token;
            if (token.equals(";")) {
                lines++;
                Edges.good(text, lines);
                Edges.good(text + " \n ", lines);
            } else {
                Edges.faulty(text, 1, text.length());
                Edges.faulty(text + " ", 1, text.length() + 1);
                Edges.faulty(text + "\n \n", 1, text.length() + 3);
            }
        }
        String most = Edges.times(" ", 885) + "gate a 24 24 20";
        Edges.faulty(most, 1, 900);
        Edges.faulty(Edges.times(" ", 899) + ";", 1, 899);
        Edges.faulty("gate a 24 24 20" + Edges.times(" ", 885), 1, 900);
        Edges.good(Edges.times(" ", 884) + "gate a 24 24 20;", 1);
    }

    private static void noTokens() {
        Edges.says("1 a TOKEN that is none (a word of more than 6 letters, too)");
        String text = "";
        for (String token : TOKENS) {
            for (String none : new String[] {"#", "abcdefg", "grounds", "A", "\u00e9", "\t", "."}) {
                Edges.faulty(text + none, 1, text.length());
                Edges.faulty(text + none + " " + token + " ;", 1, text.length());
            }
            text += token + " ";
        }
        Edges.faulty(text + "#", 1, text.length());
    }

    private static void toldAlready() {
        Edges.says("3 told already: a name of its kind (at W)");
        Edges.faulty("gate abcdef 24 24 20;gate abcdef 24 24 20;", 3, 26);
        Edges.faulty("gate a 24 24 20;gate b 24 24 20;gate c 24 24 20;gate a", 3, 53);
        Edges.faulty("work a 1 brace;work b 1 brace;work b 1 brace;", 3, 35);
        Edges.faulty("cause a 1 lean 1;cause b 1 lean 1;cause a 1 lean 1;", 3, 40);
        Edges.good("gate abcde 24 24 20;gate abcdef 24 24 20;gate abcdeg 24 24 20;", 3);
        Edges.says("GATES, WORKS, CAUSES have names of their kind");
        Edges.good("cause a 1 lean 1;gate a 24 24 20 has a;work a 1 brace;", 3);
        Edges.good("work a 1 brace;gate a 24 24 20;cause a 1 lean 1;", 3);
        Edges.says("ground (at the word)");
        String ground = "ground" + Edges.times(" 9", 12) + ";";
        Edges.faulty(ground + ground, 3, ground.length());
        Edges.faulty(ground + "gate a 24 24 20;\nground", 3, ground.length() + 17);
        Edges.says("a law of its KIND (at KIND)");
        String[] kinds = {"lean", "open", "bend", "knock"};
        for (String kind : kinds) {
            String law = "law " + kind + " 1;";
            Edges.faulty(law + law, 3, law.length() + 4);
            Edges.faulty(law + "law " + kind, 3, law.length() + 4);
            for (String other : kinds) {
                if (!other.equals(kind)) {
                    Edges.good(law + "law " + other + " 1;", 2);
                }
            }
        }
        Edges.says("hooks, post, brace, latch, child, gap, rise (at the word)");
        for (String part : PARTS) {
            String start = START + part + " ";
            Edges.faulty(start + part + ";", 3, start.length());
            Edges.faulty(start + part.split(" ")[0], 3, start.length());
            for (String other : PARTS) {
                if (!other.equals(part)) {
                    Edges.good(start + other + ";", 1);
                    String further = start + other + " ";
                    Edges.faulty(further + part + ";", 3, further.length());
                }
            }
            Edges.good(START + part + ";gate b 24 24 20 " + part + ";", 2);
        }
        Edges.faulty(START + "brace up brace down;", 3, 25);
        Edges.says("a CAUSE that the same has (at W)");
        String causes = "cause a 1 lean 1;cause b 1 lean 1;";
        Edges.faulty(causes + START + "has a has a;", 3, 34 + 26);
        Edges.faulty(causes + START + "has a has b has a;", 3, 34 + 32);
        Edges.faulty(causes + START + "has b has a has b", 3, 34 + 32);
        Edges.good(causes + START + "has a has b;gate b 24 24 20 has b has a;", 4);
    }

    private static void causesNotTold() {
        Edges.says("4 a CAUSE that isn't told ahead (at W)");
        Edges.faulty(START + "has b;", 4, 20);
        Edges.faulty(START + "has b;cause b 1 lean 1;", 4, 20);
        Edges.faulty("gate b 24 24 20;gate a 24 24 20 has b;", 4, 36);
        Edges.faulty("work b 1 brace;gate a 24 24 20 has b;", 4, 35);
        Edges.faulty("cause ab 1 lean 1;gate a 24 24 20 has a;", 4, 38);
        Edges.faulty("cause a 1 lean 1;gate a 24 24 20 has ab;", 4, 37);
        Edges.faulty("cause a 1 lean 1;gate a 24 24 20 has a has b", 4, 43);
        SagGates x = Edges.told("cause b 1 lean 1;");
        Edges.due("a cause of the text ahead is none of this one", Edges.tell(x, START + "has b;"), -1);
        Edges.due("its fault", x.fault(0), 4);
        Edges.due("the text with it", Edges.tell(x, "cause c 1 lean 1;cause b 1 lean 1;" + START + "has b;"), 3);
        Edges.due("the second one", x.look(0, 10), 2);
    }

    private static void firstAlongTheText() {
        Edges.says("FAULTS, the first along the text, with its place");
        Edges.faulty("gate a 23 99 #;", 2, 7);
        Edges.faulty(START + "has b child 201;", 4, 20);
        Edges.faulty(START + "child 201 has b;", 2, 22);
        Edges.faulty(START + "child 0 child 201 #;", 3, 24);
        Edges.faulty(START + "# child 201;", 1, 16);
        Edges.faulty("law lean 10000;law lean 1;", 2, 9);
        Edges.faulty("law lean 1;law lean 10000;", 3, 15);
        Edges.faulty("law lean (((((((((10000 #;", 2, 17);
        Edges.faulty("law lean 10000 (((((((((;", 2, 9);
        Edges.faulty("work w 1000 brace;gate", 2, 7);
        Edges.faulty("gate a 24 24 20;gate a 23 24 20;", 3, 21);
        Edges.faulty("gate a 24 24 20;gate b 23 24 20;gate a", 2, 23);
    }

    private static void leastOfOnePlace() {
        Edges.says("(of one place the least)");
        String full = "law lean not 1" + Edges.times("+1", 31) + " ";
        for (String knot : new String[] {"1", "10000", "pull", "not"}) {
            Edges.faulty(full + knot + ";", 1, full.length());
        }
        String start = LAW_OF_63 + ";law bend not ";
        for (String knot : new String[] {"+", "-", "*", "/", "<", "=", ">", "and", "or", ")", ";", "gate"}) {
            Edges.faulty(start + knot + " 1;", 1, start.length());
        }
        Edges.faulty("law lean 1 10000;", 1, 11);
        Edges.faulty("law lean " + Edges.times("(", 8) + "1(", 1, 18);
        Edges.faulty("gate a 24 24 20 999;", 1, 16);
        Edges.faulty("gate 999 24 20;", 1, 5);
        Edges.faulty(START + "hooks 0 hooks 9 0 0;", 1, 24);
        Edges.faulty(START + "brace up brace;gate", 3, 25);
        Edges.faulty("gate a 24 24 20;gate lean 24 24 20;", 1, 21);
        Edges.faulty("ground 1 ground;", 1, 9);
        Edges.faulty("law lean law lean 1;", 1, 9);
    }
}
