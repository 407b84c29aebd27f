/** Promises 1 to 5: a new object, THE TAPE, what a text tells, its FAULTS. */
public final class TextTest {
    private static final Check CHECK = new Check();

    public static void main(String[] args) {
        newObject();
        feeding();
        ending();
        telling();
        replacing();
        faultsOfTokens();
        faultsOfGrammar();
        faultsOfBounds();
        faultsOfRepeats();
        faultsOfNumber();
        refusedTextChangesNothing();
        CHECK.close();
    }

    private static void newObject() {
        SwordSeat x = new SwordSeat();
        int[] rules = {0, 0, 0, 3, 9, 0, 0, 1};
        for (int what = 0; what < rules.length; what++) {
            CHECK.due("new: rule(" + what + ")", x.rule(what), rules[what]);
        }
        CHECK.due("new: fault()", x.fault(), 0);
        CHECK.due("new: torn()", x.torn(), 0);
        for (int k = 0; k < 4; k++) {
            CHECK.due("new: lay(" + k + ", 0, 1)", x.lay(k, 0, 1), -11);
        }
        int[] counts = {0, 0, 0, -4, 0, 0};
        for (int what = 0; what < counts.length; what++) {
            CHECK.due("new: count(" + what + ")", x.count(what), counts[what]);
        }
    }

    private static void feeding() {
        SwordSeat x = new SwordSeat();
        CHECK.due("feed(-1)", x.feed(-1), -1);
        CHECK.due("feed(128)", x.feed(128), -1);
        CHECK.due("feed(min)", x.feed(Integer.MIN_VALUE), -1);
        for (int i = 1; i <= 160; i++) {
            CHECK.due("feed number " + i, x.feed(i == 1 ? 0 : 127), i);
        }
        CHECK.due("feed number 161", x.feed(32), -3);
        CHECK.due("a wrong byte on a full tape", x.feed(128), -1);
        CHECK.due("the tape stays", x.count(2), 160);
    }

    private static void ending() {
        SwordSeat x = new SwordSeat();
        Check.feedAll(x, "load 5;prize 1;zzz");
        CHECK.due("end(-1)", x.end(-1), -1);
        CHECK.due("end above its length", x.end(19), -1);
        CHECK.due("end of its length", x.end(18), 18);
        CHECK.due("end(7)", x.end(7), 18);
        CHECK.due("the tape", x.count(2), 7);
        CHECK.due("text()", x.text(), 1);
        CHECK.due("what was kept is told", x.rule(3), 5);
        CHECK.due("what was cut is not", x.rule(4), 9);
        CHECK.due("end(0) of nothing", x.end(0), 0);
    }

    private static void telling() {
        SwordSeat x = new SwordSeat();
        CHECK.due("text", Check.tell(x, "broken 1;hair damp 09;  hair  dyed 3 ; king9 99;law 5 0;hair doubled00;"), 6);
        CHECK.due("fault", x.fault(), 0);
        CHECK.due("the tape is empty then", x.count(2), 0);
        CHECK.due("hairs", x.rule(0), 3);
        CHECK.due("whole", x.rule(6), 5);
        CHECK.due("kind 0", x.hair(0, 0), 1);
        CHECK.due("age 0", x.hair(0, 1), 9);
        CHECK.due("kind 1", x.hair(1, 0), 2);
        CHECK.due("kind 2", x.hair(2, 0), 3);
        CHECK.due("worth", x.king(0, 0), 9);
        CHECK.due("life", x.king(0, 1), 99);
        CHECK.due("hours", x.law(0, 0), 5);
        CHECK.due("law's worth", x.law(0, 1), 0);
    }

    private static void replacing() {
        SwordSeat x = Check.told("hair plain 1;king 1 2;law 1 1;load 8;prize 7;");
        x.hour(0);
        x.see(1, 1);
        x.keep(0);
        x.keep(1);
        x.sheet(0, 2, 3);
        x.read(0, 2, 0, 1);
        CHECK.due("blanks alone are no lines", Check.tell(x, "   "), 0);
        int[] rules = {0, 0, 0, 3, 9, 0, 0, 1};
        for (int what = 0; what < rules.length; what++) {
            CHECK.due("told anew: rule(" + what + ")", x.rule(what), rules[what]);
        }
        CHECK.due("nothing is seen", x.count(0), 0);
        CHECK.due("images are gone", x.count(1), 0);
        CHECK.due("image 0 is gone", x.back(0), -2);
        CHECK.due("image 1 is gone", x.back(1), -2);
        CHECK.due("sheets stay", x.count(3), 3);
    }

    private static void faulty(String text, int fault, int place) {
        SwordSeat x = new SwordSeat();
        CHECK.due("text() of '" + text + "'", Check.tell(x, text), -10 - place);
        CHECK.due("fault() of '" + text + "'", x.fault(), fault);
        CHECK.due("the tape is empty", x.count(2), 0);
    }

    private static void faultsOfTokens() {
        faulty("A", 1, 0);
        faulty("load 3;" + (char) 0, 1, 7);
        faulty("" + (char) 127, 1, 0);
        faulty("load 3;\n", 1, 7);
        faulty("load\t3;", 1, 4);
        faulty("load 3:", 1, 6);
        faulty("load -3;", 1, 5);
        faulty("  123", 1, 2);
        faulty("load 003;", 1, 5);
        faulty("king 1 100;", 1, 7);
        faulty("load 3{", 1, 6);
        faulty("hair `", 1, 5);
    }

    private static void faultsOfGrammar() {
        faulty(";", 2, 0);
        faulty("7", 2, 0);
        faulty("load 3;;", 2, 7);
        faulty("hairs plain 1;", 2, 0);
        faulty("hai", 2, 0);
        faulty("pair plain 1;", 2, 0);
        faulty("hair slain 1;", 2, 5);
        faulty("plain 1;", 2, 0);
        faulty("hair hair 1;", 2, 5);
        faulty("hair 1;", 2, 5);
        faulty("hair plainn 1;", 2, 5);
        faulty("hair plain;", 2, 10);
        faulty("hair plain x;", 2, 11);
        faulty("hair plain 1 2;", 2, 13);
        faulty("king 1;", 2, 6);
        faulty("law 1 1 load 3;", 2, 8);
        faulty("load 3 ", 2, 7);
        faulty("load   ", 2, 7);
        faulty("hair", 2, 4);
        faulty("prize 3", 2, 7);
    }

    private static void faultsOfBounds() {
        faulty("hair sung 10;", 3, 10);
        faulty("king 10 1;", 3, 5);
        faulty("law 0 1;", 3, 4);
        faulty("law 6 1;", 3, 4);
        faulty("law 1 10;", 3, 6);
        faulty("load 0;", 3, 5);
        faulty("load 10;", 3, 5);
        faulty("broken 3;", 3, 7);
        faulty("load 0 A", 3, 5);
        CHECK.due("the edges", Check.tell(new SwordSeat(), "hair plain 9;king 0 0;law 1 9;law 5 0;load 1;prize 99;"), 6);
        CHECK.due("the other edges", Check.tell(new SwordSeat(), "hair plain 0;king 9 99;law 5 9;load 9;prize 0;"), 5);
    }

    private static void faultsOfRepeats() {
        faulty("load 3;load 3;", 4, 7);
        faulty("load 3; load A", 4, 8);
        faulty("prize 3;hair plain 1;prize 0;", 4, 21);
        faulty("hair plain 1;broken 0;broken 0;", 4, 29);
        faulty("broken 2;broken 2", 4, 16);
    }

    private static void faultsOfNumber() {
        faulty("hair plain 1;hair plain 1;hair plain 1;hair x", 5, 39);
        faulty("king 1 1;king 1 1;king 1 1;king 1 1;king", 5, 36);
        faulty("law 1 1;law 1 1;law 1 1; law 1 1;", 5, 25);
        faulty("broken 0;", 6, 9);
        faulty("hair plain 1;broken 1;  ", 6, 24);
        faulty("broken 2;hair plain 1;hair plain 1;load 0;", 3, 40);
    }

    private static void refusedTextChangesNothing() {
        SwordSeat x = Check.told("hair dyed 4;king 3 4;law 2 2;load 5;prize 6;");
        x.hour(0);
        x.see(1, 1);
        x.keep(1);
        CHECK.due("a text is refused", Check.tell(x, "hair plain 1;load 1;prize 1;king 1 1;broken 2;"), -56);
        int[] rules = {1, 1, 1, 5, 6, 1, 1, 0};
        for (int what = 0; what < rules.length; what++) {
            CHECK.due("refused: rule(" + what + ")", x.rule(what), rules[what]);
        }
        CHECK.due("the hair stays", x.hair(0, 0), 2);
        CHECK.due("its age", x.hair(0, 1), 5);
        CHECK.due("what is seen stays", x.count(0), 1);
        CHECK.due("the image stays", x.back(1), 1);
        CHECK.due("fault()", x.fault(), 6);
        CHECK.due("a good one", Check.tell(x, ""), 0);
        CHECK.due("fault() of the latest", x.fault(), 0);
    }
}
