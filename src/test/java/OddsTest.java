/** Promises 16 to 24: what is likely, what is to be done. */
public final class OddsTest {
    private static final Check CHECK = new Check();

    public static void main(String[] args) {
        falling();
        leaving();
        means();
        sitting();
        seeing();
        testing();
        plaiting();
        bearing();
        mending();
        CHECK.close();
    }

    /** One plain HAIR of AGE 0, LOAD 3 breaks by 2, 2, 3, 3, 4 tenths. */
    private static void falling() {
        SwordSeat x = Check.told("hair plain 0;");
        long[][] due = {{0, 1}, {1, 5}, {9, 25}, {69, 125}, {429, 625}, {2537, 3125}};
        for (int n = 0; n <= 5; n++) {
            CHECK.dueRatio("falls behind " + n, x.falls(n, 0), x.falls(n, 1), due[n][0], due[n][1]);
        }
        CHECK.due("hour stays", x.rule(5), 0);
        x = Check.told("hair plain 0;hair plain 0;");
        CHECK.dueRatio("two", x.falls(2, 0), x.falls(2, 1), 541, 10000);
        x = Check.told("hair plain 0;hair dyed 9;broken 1;");
        CHECK.dueRatio("broken ones do not count", x.falls(5, 0), x.falls(5, 1), 2537, 3125);
        CHECK.dueRatio("none", new SwordSeat().falls(0, 0), new SwordSeat().falls(0, 1), 1, 1);
        CHECK.due("falls(-1, 0)", x.falls(-1, 0), -1);
        CHECK.due("falls(6, 0)", x.falls(6, 0), -1);
        CHECK.due("falls(0, 2)", x.falls(0, 2), -1);
        CHECK.due("falls(0, -1)", x.falls(0, -1), -1);
        x = Check.told("hair dyed 9;load 9;");
        CHECK.dueRatio("sure to fall", x.falls(1, 0), x.falls(1, 1), 1, 1);
        x = Check.told("hair dyed 9;hair damp 9;hair dyed 7;load 4;");
        CHECK.dueRatio("long figures", x.falls(5, 0), x.falls(5, 1), 7797174857119L, 7812500000000L);
    }

    private static void leaving() {
        SwordSeat x = Check.told("hair plain 0;hair plain 0;");
        CHECK.dueRatio("left(1, 0)", x.left(1, 0, 0), x.left(1, 0, 1), 1, 100);
        CHECK.dueRatio("left(1, 1)", x.left(1, 1, 0), x.left(1, 1, 1), 9, 50);
        CHECK.dueRatio("left(1, 2)", x.left(1, 2, 0), x.left(1, 2, 1), 81, 100);
        CHECK.dueRatio("left(1, 3)", x.left(1, 3, 0), x.left(1, 3, 1), 0, 1);
        CHECK.dueRatio("left(2, 2)", x.left(2, 2, 0), x.left(2, 2, 1), 6561, 10000);
        CHECK.dueRatio("left(2, 1)", x.left(2, 1, 0), x.left(2, 1, 1), 1449, 5000);
        CHECK.dueRatio("left(0, 2)", x.left(0, 2, 0), x.left(0, 2, 1), 1, 1);
        CHECK.due("left(6, 0, 0)", x.left(6, 0, 0), -1);
        CHECK.due("left(-1, 0, 0)", x.left(-1, 0, 0), -1);
        CHECK.due("left(1, 4, 0)", x.left(1, 4, 0), -1);
        CHECK.due("left(1, -1, 0)", x.left(1, -1, 0), -1);
        CHECK.due("left(1, 1, 2)", x.left(1, 1, 2), -1);
        CHECK.due("left(1, 1, -1)", x.left(1, 1, -1), -1);
    }

    private static void means() {
        SwordSeat x = Check.told("hair plain 0;hair plain 0;");
        CHECK.dueRatio("mean(0)", x.mean(0, 0), x.mean(0, 1), 2, 1);
        CHECK.dueRatio("mean(1)", x.mean(1, 0), x.mean(1, 1), 9, 5);
        CHECK.dueRatio("mean(2)", x.mean(2, 0), x.mean(2, 1), 801, 500);
        CHECK.dueRatio("of none", new SwordSeat().mean(5, 0), new SwordSeat().mean(5, 1), 0, 1);
        x = Check.told("hair plain 0;hair plain 0;hair damp 0;");
        CHECK.dueRatio("of three", x.mean(1, 0), x.mean(1, 1), 29, 10);
        CHECK.due("mean(6, 0)", x.mean(6, 0), -1);
        CHECK.due("mean(-1, 0)", x.mean(-1, 0), -1);
        CHECK.due("mean(1, 2)", x.mean(1, 2), -1);
        CHECK.due("mean(1, -1)", x.mean(1, -1), -1);
    }

    private static void sitting() {
        SwordSeat x = Check.told("hair plain 0;king 5 10;king 1 10;king 1 4;");
        CHECK.dueRatio("sits(0, 1)", x.sits(0, 1, 0), x.sits(0, 1, 1), 2, 1);
        CHECK.dueRatio("sits(0, 2)", x.sits(0, 2, 0), x.sits(0, 2, 1), 18, 5);
        CHECK.dueRatio("sits(1, 1)", x.sits(1, 1, 0), x.sits(1, 1, 1), -6, 5);
        CHECK.dueRatio("sits(2, 1)", x.sits(2, 1, 0), x.sits(2, 1, 1), 0, 1);
        CHECK.dueRatio("sits(0, 0)", x.sits(0, 0, 0), x.sits(0, 0, 1), 0, 1);
        CHECK.due("sits(3, 1, 0)", x.sits(3, 1, 0), -1);
        CHECK.due("sits(-1, 1, 0)", x.sits(-1, 1, 0), -1);
        CHECK.due("sits(0, 6, 0)", x.sits(0, 6, 0), -1);
        CHECK.due("sits(0, -1, 0)", x.sits(0, -1, 0), -1);
        CHECK.due("sits(0, 1, 2)", x.sits(0, 1, 2), -1);
        CHECK.due("sits(0, 1, -1)", x.sits(0, 1, -1), -1);
        x.knot(0, false);
        CHECK.dueRatio("not under a fallen sword", x.sits(0, 5, 0), x.sits(0, 5, 1), 0, 1);
    }

    private static void seeing() {
        SwordSeat x = Check.told("hair plain 0;king 5 10;king 1 10;king 1 4;");
        CHECK.dueRatio("best(0, 2)", x.best(0, 2, 0), x.best(0, 2, 1), 18, 5);
        CHECK.due("he sits", x.best(0, 2, 2), 1);
        CHECK.dueRatio("best(1, 3)", x.best(1, 3, 0), x.best(1, 3, 1), 0, 1);
        CHECK.due("he does not", x.best(1, 3, 2), 0);
        CHECK.due("a mean of 0 is not more than 0", x.best(2, 1, 2), 0);
        CHECK.due("best(3, 1, 0)", x.best(3, 1, 0), -1);
        CHECK.due("best(-1, 1, 0)", x.best(-1, 1, 0), -1);
        CHECK.due("best(0, 6, 0)", x.best(0, 6, 0), -1);
        CHECK.due("best(0, -1, 0)", x.best(0, -1, 0), -1);
        CHECK.due("best(0, 1, 3)", x.best(0, 1, 3), -1);
        CHECK.due("best(0, 1, -1)", x.best(0, 1, -1), -1);
        // With two he sits (.99 - .01 by 20), with one left he goes (.8 - .2 by 20): .79 + .81 by .79.
        x = Check.told("hair plain 0;hair plain 0;king 1 20;");
        CHECK.dueRatio("he leaves when one is broken", x.best(0, 2, 0), x.best(0, 2, 1), 14299, 10000);
        x.hour(3);
        CHECK.due("fallen", x.best(0, 2, 2), 0);
    }

    private static void testing() {
        SwordSeat x = Check.told("hair plain 0;");
        CHECK.dueRatio("test(9, 0)", x.test(9, 0, 0), x.test(9, 0, 1), 1, 5);
        CHECK.dueRatio("test(9, 1)", x.test(9, 1, 0), x.test(9, 1, 1), 4, 25);
        CHECK.dueRatio("test(1, 4)", x.test(1, 4, 0), x.test(1, 4, 1), 147, 625);
        CHECK.due("load stays", x.rule(3), 3);
        x.age(0, 1);
        CHECK.dueRatio("by its age", x.test(3, 1, 0), x.test(3, 1, 1), 14, 25);
        CHECK.due("test(0, 0, 0)", x.test(0, 0, 0), -1);
        CHECK.due("test(10, 0, 0)", x.test(10, 0, 0), -1);
        CHECK.due("test(1, 5, 0)", x.test(1, 5, 0), -1);
        CHECK.due("test(1, -1, 0)", x.test(1, -1, 0), -1);
        CHECK.due("test(1, 0, 2)", x.test(1, 0, 2), -1);
        CHECK.due("test(1, 0, -1)", x.test(1, 0, -1), -1);
    }

    private static void plaiting() {
        SwordSeat x = Check.told("hair dyed 9;");
        CHECK.dueRatio("an old one falls", x.falls(1, 0), x.falls(1, 1), 4, 5);
        CHECK.due("1 tenth", x.plait(2, 5, 1), 2);
        CHECK.due("8 tenths, just", x.plait(0, 1, 8), 1);
        CHECK.due("9 tenths", x.plait(0, 1, 9), 2);
        CHECK.due("10 tenths", x.plait(0, 1, 10), 3);
        CHECK.due("sung", x.plait(4, 1, 10), 2);
        CHECK.due("dyed", x.plait(2, 1, 10), -4);
        CHECK.due("no hours", x.plait(2, 0, 10), 1);
        CHECK.due("plait(5, 1, 1)", x.plait(5, 1, 1), -1);
        CHECK.due("plait(-1, 1, 1)", x.plait(-1, 1, 1), -1);
        CHECK.due("plait(0, 6, 1)", x.plait(0, 6, 1), -1);
        CHECK.due("plait(0, -1, 1)", x.plait(0, -1, 1), -1);
        CHECK.due("plait(0, 1, 0)", x.plait(0, 1, 0), -1);
        CHECK.due("plait(0, 1, 11)", x.plait(0, 1, 11), -1);
        CHECK.due("those there are stay", x.rule(0), 1);
        x.set(0, 9);
        CHECK.due("by the load that is", x.plait(0, 1, 9), 3);
    }

    private static void bearing() {
        SwordSeat x = Check.told("hair plain 0;");
        CHECK.due("bears(1, 8)", x.bears(1, 8), 3);
        CHECK.due("bears(1, 10)", x.bears(1, 10), 1);
        CHECK.due("bears(0, 10)", x.bears(0, 10), 9);
        CHECK.due("bears(2, 8)", x.bears(2, 8), 2);
        x.age(0, 9);
        CHECK.due("an old one", x.bears(1, 7), -4);
        CHECK.due("an old one, less", x.bears(1, 6), 1);
        x.knot(0, false);
        CHECK.due("fallen", x.bears(0, 1), -4);
        CHECK.due("bears(6, 1)", x.bears(6, 1), -1);
        CHECK.due("bears(-1, 1)", x.bears(-1, 1), -1);
        CHECK.due("bears(1, 0)", x.bears(1, 0), -1);
        CHECK.due("bears(1, 11)", x.bears(1, 11), -1);
        CHECK.due("load stays", x.rule(3), 3);
    }

    private static void mending() {
        SwordSeat x = Check.told("hair plain 8;hair plain 8;load 2;");
        CHECK.due("the first of two", x.mend(1, 0), 0);
        CHECK.dueRatio("then", x.mend(1, 1), x.mend(1, 2), 1, 1);
        CHECK.due("no hours: none is likelier", x.mend(0, 0), -4);
        CHECK.due("none, numerator", x.mend(0, 1), -4);
        CHECK.due("mend(6, 0)", x.mend(6, 0), -1);
        CHECK.due("mend(-1, 0)", x.mend(-1, 0), -1);
        CHECK.due("mend(1, 3)", x.mend(1, 3), -1);
        CHECK.due("mend(1, -1)", x.mend(1, -1), -1);
        CHECK.due("they stay", x.hair(0, 1), 8);
        x = Check.told("hair plain 0;hair damp 0;broken 0;broken 1;");
        CHECK.due("fallen", x.mend(0, 0), 0);
        CHECK.dueRatio("whole by it", x.mend(1, 1), x.mend(1, 2), 4, 5);
        x = Check.told("hair dyed 4;hair sung 4;broken 0;broken 1;");
        CHECK.due("by its kind", x.mend(2, 0), 1);
        x = Check.told("hair plain 3;hair plain 1;hair sung 7;load 9;");
        CHECK.due("the third", x.mend(1, 0), 2);
        x = Check.told("hair plain 0;hair plain 0;hair dyed 1;load 9;broken 2;");
        CHECK.due("the last one", x.mend(1, 0), 2);
        CHECK.dueRatio("with it", x.mend(1, 1), x.mend(1, 2), 123, 125);
        x = Check.told("hair plain 1;broken 0;");
        CHECK.dueRatio("it is of age 0", x.mend(2, 1), x.mend(2, 2), 16, 25);
        x = Check.told("hair plain 0;hair plain 0;hair plain 0;load 1;");
        CHECK.due("sure already", x.mend(1, 0), -4);
    }
}
