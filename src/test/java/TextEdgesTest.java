/** Promises 1 to 5 at their edges, sentence by sentence. */
public final class TextEdgesTest {
    private static final Check CHECK = new Check();
    private static final String FULLEST = "hair sung 0;hair sung 0;hair sung 0;king 0 0;king 0 0;king 0 0;king 0 0;"
        + "law 1 0;law 1 0;law 1 0;load 1;prize 0;broken 0;broken 1;broken 2;";

    public static void main(String[] args) {
        newObject();
        tapeOf160();
        tapeKeepsItsFirst();
        whatIsCutIsNotRead();
        emptyTexts();
        tapeIsEmptyThen();
        fullestText();
        placesAtTheEnd();
        tokensAsLongAsMayBe();
        blanksAlone();
        onlyTheBytesOfTokens();
        numbersTooLong();
        namesThatCanNotStand();
        theEnd();
        boundsOfNumbers();
        secondTime();
        oneTooMany();
        hairsThatThereAreNot();
        theFirstMet();
        textsAreReadAnew();
        whatIsTakenTellsAll();
        faultOfTheLatest();
        CHECK.close();
    }

    private static void faulty(String text, int fault, int place) {
        SwordSeat x = new SwordSeat();
        CHECK.due("text() of '" + text + "'", Check.tell(x, text), -10 - place);
        CHECK.due("fault() of '" + text + "'", x.fault(), fault);
        CHECK.due("the tape is empty", x.count(2), 0);
        CHECK.due("no hairs of '" + text + "'", x.rule(0), 0);
    }

    private static void taken(String text, int lines) {
        SwordSeat x = new SwordSeat();
        CHECK.due("text() of '" + text + "'", Check.tell(x, text), lines);
        CHECK.due("fault() of '" + text + "'", x.fault(), 0);
        CHECK.due("the tape is empty", x.count(2), 0);
    }

    private static String blanks(int n) {
        return " ".repeat(n);
    }

    /** No HAIRS, nobody; SHEETS have nothing. LOAD 3, PRIZE 9, HOUR 0 at first. */
    private static void newObject() {
        SwordSeat x = new SwordSeat();
        CHECK.due("no hairs", x.rule(0), 0);
        CHECK.due("no kings", x.rule(1), 0);
        CHECK.due("no laws", x.rule(2), 0);
        CHECK.due("load", x.rule(3), 3);
        CHECK.due("prize", x.rule(4), 9);
        CHECK.due("hour", x.rule(5), 0);
        CHECK.due("fallen, also where there are none", x.rule(7), 1);
        for (int k = 0; k < 4; k++) {
            for (int lane = 0; lane < 3; lane++) {
                CHECK.due("sheet " + k + " is nothing", x.read(k, lane, 0, 1), 0);
                CHECK.due("NULL of sheet " + k, x.torn(), 1);
            }
        }
        CHECK.due("no image 0", x.back(0), -2);
        CHECK.due("no image 1", x.back(1), -2);
        CHECK.due("nothing is seen", x.forget(0), 0);
        CHECK.due("nothing on the tape", x.end(0), 0);
    }

    /** FULL: more than 160. */
    private static void tapeOf160() {
        SwordSeat x = new SwordSeat();
        for (int i = 1; i <= 159; i++) {
            x.feed(' ');
        }
        CHECK.due("the 160th", x.feed(127), 160);
        CHECK.due("the 161st", x.feed(' '), -3);
        CHECK.due("the 161st again", x.feed(127), -3);
        CHECK.due("BAD ahead of FULL", x.feed(-1), -1);
        CHECK.due("BAD ahead of FULL, above", x.feed(128), -1);
        CHECK.due("what is there stays", x.count(2), 160);
        CHECK.due("one less", x.end(159), 160);
        CHECK.due("one more goes again", x.feed(' '), 160);
        CHECK.due("the byte that was cut is gone", x.text(), 0);
        CHECK.due("empty then: from 1 again", x.feed(0), 1);
    }

    /** THE TAPE keeps its first n bytes: how many it had. BAD. */
    private static void tapeKeepsItsFirst() {
        SwordSeat x = new SwordSeat();
        CHECK.due("end(0) of none", x.end(0), 0);
        CHECK.due("end(1) of none", x.end(1), -1);
        x.feed('a');
        CHECK.due("end(1) of one", x.end(1), 1);
        CHECK.due("end(2) of one", x.end(2), -1);
        CHECK.due("it stays", x.count(2), 1);
        CHECK.due("end(0) of one", x.end(0), 1);
        CHECK.due("none is left", x.count(2), 0);
        Check.feedAll(x, blanks(160));
        CHECK.due("end(161) of 160", x.end(161), -1);
        CHECK.due("end(160) of 160", x.end(160), 160);
        CHECK.due("end(0) of 160", x.end(0), 160);
    }

    private static void whatIsCutIsNotRead() {
        SwordSeat x = new SwordSeat();
        Check.feedAll(x, "load 39;");
        x.end(6);
        CHECK.due("'load 3' has no ;", x.text(), -16);
        CHECK.due("the end can not stand there", x.fault(), 2);
        Check.feedAll(x, "load 39;");
        x.end(6);
        x.feed(';');
        CHECK.due("'load 3;'", x.text(), 1);
        CHECK.due("its load", x.rule(3), 3);
        Check.feedAll(x, "hairy");
        x.end(4);
        CHECK.due("'hair' is a name of its own", x.text(), -14);
        Check.tell(x, "load 4;prize 77;");
        CHECK.due("a shorter text behind a longer one", Check.tell(x, "load 4;"), 1);
        CHECK.due("nothing of the longer one", x.rule(4), 9);
    }

    private static void emptyTexts() {
        taken("", 0);
        taken(" ", 0);
        taken(blanks(160), 0);
    }

    /** THE TAPE (empty then) tells all: also behind a FAULT. */
    private static void tapeIsEmptyThen() {
        SwordSeat x = new SwordSeat();
        CHECK.due("a fault", Check.tell(x, "A"), -10);
        CHECK.due("empty", x.count(2), 0);
        CHECK.due("it is not read again", x.text(), 0);
        CHECK.due("no fault of nothing", x.fault(), 0);
        CHECK.due("taken", Check.tell(x, "load 8;"), 1);
        CHECK.due("empty, too", x.count(2), 0);
        CHECK.due("an empty text tells all, too", x.text(), 0);
        CHECK.due("load is as at first", x.rule(3), 3);
    }

    private static void fullestText() {
        taken(FULLEST, 15);
        taken(FULLEST + blanks(160 - FULLEST.length()), 15);
        taken(blanks(160 - FULLEST.length()) + FULLEST, 15);
        SwordSeat x = Check.told(FULLEST);
        int[] rules = {3, 4, 3, 1, 0, 0, 0, 1};
        for (int what = 0; what < rules.length; what++) {
            CHECK.due("the fullest text: rule(" + what + ")", x.rule(what), rules[what]);
        }
    }

    /** -10 less the place: the last one on THE TAPE, and its length. */
    private static void placesAtTheEnd() {
        faulty(blanks(159) + "A", 1, 159);
        faulty(blanks(159) + ";", 2, 159);
        faulty(blanks(159) + "h", 2, 159);
        faulty(blanks(156) + "hair", 2, 160);
        faulty("hair" + blanks(156), 2, 160);
        faulty(blanks(154) + "load 3", 2, 160);
        faulty(blanks(157) + "123", 1, 157);
        faulty(blanks(152) + "load 003", 1, 157);
        faulty(blanks(154) + "load 0", 3, 159);
        faulty("broken 0;" + blanks(151), 6, 160);
        faulty("a".repeat(160), 2, 0);
        faulty("1".repeat(160), 1, 0);
        taken(blanks(153) + "load 3;", 1);
    }

    private static void tokensAsLongAsMayBe() {
        faulty("hairplain 1;", 2, 0);
        faulty("hair plainplain 1;", 2, 5);
        faulty("loadload 1;", 2, 0);
        faulty("load 12;", 3, 5);
        faulty("law 11;", 3, 4);
        faulty("king 99;", 3, 5);
        faulty("king 0 99 9;", 2, 10);
        taken("king 9 99;", 1);
        taken("hair plain1;", 1);
        taken("king1 2;", 1);
        taken("load3;prize4;broken0;hair damp5;", 4);
        taken("load 03;prize 00;king 09 00;law 05 09;hair dyed 09;broken 00;", 6);
        faulty("load 1 2;", 2, 7);
        faulty("hair pla in 1;", 2, 5);
    }

    /** Blanks (32) between. */
    private static void blanksAlone() {
        taken("  load   3  ;  ", 1);
        taken(" hair  plain  1 ;king  1  2 ; ", 2);
        faulty("load" + (char) 9 + "3;", 1, 4);
        faulty("load" + (char) 10 + "3;", 1, 4);
        faulty("load" + (char) 13 + "3;", 1, 4);
        faulty("load" + (char) 31 + "3;", 1, 4);
        faulty("load" + (char) 33 + "3;", 1, 4);
        faulty("load" + (char) 0 + "3;", 1, 4);
    }

    /** Each byte that begins no TOKEN is a FAULT 1, each other one stands by itself as a FAULT 2, or is a blank. */
    private static void onlyTheBytesOfTokens() {
        for (int c = 0; c < 128; c++) {
            String sign = "" + (char) c;
            boolean token = c >= 'a' && c <= 'z' || c >= '0' && c <= '9' || c == ';';
            if (c == ' ') {
                taken(sign, 0);
            } else {
                faulty(sign, token ? 2 : 1, 0);
                faulty("load 3; " + sign, token ? 2 : 1, 8);
                faulty("hair " + sign, token ? 2 : 1, 5);
            }
        }
    }

    /** 1 a NUMBER that is too long (its first byte), wherever it stands. */
    private static void numbersTooLong() {
        faulty("100", 1, 0);
        faulty("hair 100", 1, 5);
        faulty("hair plain 000;", 1, 11);
        faulty("hair plain 1 000;", 1, 13);
        faulty("king 000 1;", 1, 5);
        faulty("king 1 0000;", 1, 7);
        faulty("law 001 1;", 1, 4);
        faulty("prize 099;", 1, 6);
        faulty("broken 000;", 1, 7);
        faulty("load 3;999", 1, 7);
    }

    /** 2 a TOKEN that can not stand there (a NAME that begins no line, is no K). */
    private static void namesThatCanNotStand() {
        String[] kinds = {"plain", "damp", "dyed", "doubled", "sung"};
        for (int k = 0; k < kinds.length; k++) {
            String kind = kinds[k];
            SwordSeat x = Check.told("hair " + kind + " 1;");
            CHECK.due(kind, x.hair(0, 0), k);
            faulty(kind + " 1;", 2, 0);
            faulty("hair " + kind + "s 1;", 2, 5);
            faulty("hair " + kind.substring(1) + " 1;", 2, 5);
            faulty("hair " + kind.substring(0, kind.length() - 1) + " 1;", 2, 5);
        }
        for (String name : new String[] {"hair", "king", "law", "load", "prize", "broken"}) {
            faulty("hair " + name + " 1;", 2, 5);
            faulty(name + "x 1 1;", 2, 0);
            faulty("x" + name + " 1 1;", 2, 0);
            faulty(name.substring(1) + " 1 1;", 2, 0);
            faulty(name.substring(0, name.length() - 1) + " 1 1;", 2, 0);
            faulty(name + ";", 2, name.length());
            faulty(name + " " + name, 2, name.length() + 1);
            faulty(name + " sun 1", 2, name.length() + 1);
        }
    }

    /** Or the end: the length. */
    private static void theEnd() {
        for (String line : new String[] {"hair sung 1;", "king 1 1;", "law 1 1;", "load 1;", "prize 1;", "broken 0;"}) {
            String[] words = line.substring(0, line.length() - 1).split(" ");
            String text = "";
            for (String word : words) {
                text += word;
                faulty(text, 2, text.length());
                faulty(text + "   ", 2, text.length() + 3);
                text += " ";
            }
        }
    }

    private static void boundsOfNumber(String before, String behind, int least, int most) {
        for (int v = 0; v <= 99; v++) {
            if (v >= least && v <= most) {
                CHECK.due(before + v + behind, Check.tell(new SwordSeat(), before + v + behind), 1);
            } else {
                faulty(before + v + behind, 3, before.length());
            }
        }
    }

    /** 3 a NUMBER out of its bounds. */
    private static void boundsOfNumbers() {
        boundsOfNumber("hair damp ", ";", 0, 9);
        boundsOfNumber("king ", " 1;", 0, 9);
        boundsOfNumber("king 1 ", ";", 0, 99);
        boundsOfNumber("law ", " 1;", 1, 5);
        boundsOfNumber("law 1 ", ";", 0, 9);
        boundsOfNumber("load ", ";", 1, 9);
        boundsOfNumber("prize ", ";", 0, 99);
        for (int v = 3; v <= 99; v++) {
            faulty("broken " + v + ";", 3, 7);
        }
    }

    /** 4 load, prize for the second time (its NAME); a HAIR that is told broken already (it). */
    private static void secondTime() {
        faulty("load 3;prize 9;load 3;", 4, 15);
        faulty("load 3;load", 4, 7);
        faulty("load 3;load 0;", 4, 7);
        faulty("prize 9;load 3;prize 9;", 4, 15);
        faulty("prize 9;prize", 4, 8);
        faulty("prize 9;prize A;", 4, 8);
        for (int i = 0; i < 3; i++) {
            faulty("broken " + i + ";broken " + i + ";", 4, 16);
            faulty("broken " + i + ";broken 0" + i, 4, 16);
        }
        taken("hair sung 0;hair sung 0;hair sung 0;broken 2;broken 0;broken 1;", 6);
    }

    /** 5 the 4th hair, the 5th king, the 4th law (its NAME). */
    private static void oneTooMany() {
        String hairs = "hair sung 0;".repeat(3);
        String kings = "king 0 0;".repeat(4);
        String laws = "law 1 0;".repeat(3);
        taken(hairs, 3);
        taken(kings, 4);
        taken(laws, 3);
        faulty(hairs + "hair sung 0;", 5, 36);
        faulty(hairs + "hair", 5, 36);
        faulty(hairs + "hair A", 5, 36);
        faulty(kings + "king 0 0;", 5, 36);
        faulty(kings + "king 10", 5, 36);
        faulty(laws + "law 1 0;", 5, 24);
        faulty(laws + " law;", 5, 25);
        faulty(hairs + kings + laws + "law", 5, 96);
    }

    /** Behind all (the length): 6 a HAIR that there is not. */
    private static void hairsThatThereAreNot() {
        for (int hairs = 0; hairs <= 3; hairs++) {
            String made = "hair sung 0;".repeat(hairs);
            for (int i = 0; i < 3; i++) {
                if (i < hairs) {
                    taken(made + "broken " + i + ";", hairs + 1);
                    taken("broken " + i + ";" + made, hairs + 1);
                } else {
                    faulty(made + "broken " + i + ";", 6, 12 * hairs + 9);
                    faulty("broken " + i + ";" + made + "  ", 6, 12 * hairs + 11);
                }
            }
        }
    }

    /** FAULTS, the first met as it is read (a TOKEN is read when the one before has been taken). */
    private static void theFirstMet() {
        faulty("load 0 A", 3, 5);
        faulty("load 0", 3, 5);
        faulty("load A", 1, 5);
        faulty("load 3 A", 1, 7);
        faulty("load 3 123", 1, 7);
        faulty("xx A", 2, 0);
        faulty("hair xx A", 2, 5);
        faulty("hair 1 A", 2, 5);
        faulty("king 10 100;", 3, 5);
        faulty("king x 100;", 2, 5);
        faulty("broken 2;A", 1, 9);
        faulty("broken 2;;", 2, 9);
        faulty("broken 2;load 0;", 3, 14);
        faulty("broken 2;broken 2;", 4, 16);
        faulty("broken 2;load 1;load 1;", 4, 16);
        faulty("broken 0;broken 0 A", 4, 16);
        faulty("broken 3;broken 3;", 3, 7);
    }

    /** What one text told is no second time in the next. */
    private static void textsAreReadAnew() {
        SwordSeat x = new SwordSeat();
        CHECK.due("load twice", Check.tell(x, "load 3;load 3;"), -17);
        CHECK.due("load once", Check.tell(x, "load 4;"), 1);
        CHECK.due("load once more", Check.tell(x, "load 5;"), 1);
        CHECK.due("prize twice", Check.tell(x, "prize 3;prize 3;"), -18);
        CHECK.due("prize once", Check.tell(x, "prize 4;"), 1);
        CHECK.due("broken twice", Check.tell(x, "broken 0;broken 0;"), -26);
        CHECK.due("broken once", Check.tell(x, "hair sung 0;broken 0;"), 2);
        CHECK.due("a hair that there is not now", Check.tell(x, "broken 0;"), -19);
        CHECK.due("three hairs", Check.tell(x, "hair sung 0;".repeat(3)), 3);
        CHECK.due("three others", Check.tell(x, "hair damp 0;".repeat(3)), 3);
        CHECK.due("whole again", x.rule(6), 7);
    }

    /** A text that is taken tells all, in place of what there was; nothing is SEEN; IMAGES are gone. */
    private static void whatIsTakenTellsAll() {
        SwordSeat x = Check.told("hair plain 1;hair plain 1;king 1 2;king 1 2;law 1 1;load 8;prize 7;broken 0;");
        x.hour(0);
        x.see(1, 1);
        x.keep(0);
        x.keep(1);
        x.sheet(0, 0, 1);
        x.read(3, 0, 0, 1);
        CHECK.due("taken", Check.tell(x, "hair sung 2;law 2 3;"), 2);
        int[] rules = {1, 0, 1, 3, 9, 0, 1, 0};
        for (int what = 0; what < rules.length; what++) {
            CHECK.due("rule(" + what + ") then", x.rule(what), rules[what]);
        }
        CHECK.due("its kind", x.hair(0, 0), 4);
        CHECK.due("its age", x.hair(0, 1), 2);
        CHECK.due("no second hair", x.hair(1, 0), -1);
        CHECK.due("no king", x.king(0, 0), -1);
        CHECK.due("its law", x.law(0, 1), 3);
        CHECK.due("nothing is seen", x.forget(0), 0);
        CHECK.due("image 0 is gone", x.back(0), -2);
        CHECK.due("image 1 is gone", x.back(1), -2);
        CHECK.due("no image was there", x.keep(0), 0);
        CHECK.due("the sheet is there", x.lay(0, 0, 0), 1);
        CHECK.due("the fault of the latest read()", x.torn(), 1);
    }

    /** The FAULT of the latest text(); 0. */
    private static void faultOfTheLatest() {
        SwordSeat x = new SwordSeat();
        CHECK.due("at first", x.fault(), 0);
        String[] texts = {"A", ";", "load 0;", "load 1;load 1;", "hair sung 0;hair sung 0;hair sung 0;hair", "broken 0;"};
        for (int i = 0; i < texts.length; i++) {
            Check.tell(x, texts[i]);
            CHECK.due("fault() of '" + texts[i] + "'", x.fault(), i + 1);
            x.feed('A');
            x.feed(-1);
            x.end(0);
            x.sheet(0, 0, -1);
            CHECK.due("it stays", x.fault(), i + 1);
            if (i % 2 == 1) {
                x.text();
                CHECK.due("none of an empty text", x.fault(), 0);
            }
        }
    }
}
