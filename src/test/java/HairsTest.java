/** Promises 6 to 15: what there is, what is changed, an HOUR. */
public final class HairsTest {
    private static final Check CHECK = new Check();

    public static void main(String[] args) {
        asking();
        breaksByKind();
        breaksByStrain();
        setting();
        aging();
        dyeing();
        knotting();
        paying();
        hours();
        hoursFull();
        CHECK.close();
    }

    private static void asking() {
        SwordSeat x = Check.told("hair plain 1;hair sung 2;king 3 4;law 5 6;");
        CHECK.due("rule(-1)", x.rule(-1), -1);
        CHECK.due("rule(8)", x.rule(8), -1);
        CHECK.due("hair(-1, 0)", x.hair(-1, 0), -1);
        CHECK.due("hair(2, 0)", x.hair(2, 0), -1);
        CHECK.due("hair(0, 4)", x.hair(0, 4), -1);
        CHECK.due("hair(0, -1)", x.hair(0, -1), -1);
        CHECK.due("king(1, 0)", x.king(1, 0), -1);
        CHECK.due("king(-1, 0)", x.king(-1, 0), -1);
        CHECK.due("king(0, 2)", x.king(0, 2), -1);
        CHECK.due("king(0, -1)", x.king(0, -1), -1);
        CHECK.due("law(1, 0)", x.law(1, 0), -1);
        CHECK.due("law(-1, 0)", x.law(-1, 0), -1);
        CHECK.due("law(0, 2)", x.law(0, 2), -1);
        CHECK.due("law(0, -1)", x.law(0, -1), -1);
        CHECK.due("hair(1, 0)", x.hair(1, 0), 4);
        CHECK.due("hair(1, 1)", x.hair(1, 1), 2);
        CHECK.due("king(0, 1)", x.king(0, 1), 4);
        CHECK.due("law(0, 1)", x.law(0, 1), 6);
    }

    /** One HAIR, LOAD 3: the strain is 3. */
    private static void breaksByKind() {
        int[][] due = {
            {2, 2, 3, 3, 4, 4, 5, 5, 6, 6},
            {3, 3, 4, 4, 5, 5, 6, 6, 7, 7},
            {4, 4, 5, 5, 6, 6, 7, 7, 8, 8},
            {2, 2, 2, 2, 3, 3, 3, 3, 4, 4},
            {1, 1, 1, 1, 2, 2, 2, 2, 3, 3}};
        SwordSeat x = Check.told("hair plain 0;");
        for (int kind = 0; kind < due.length; kind++) {
            x.dye(0, kind);
            for (int age = 0; age < due[kind].length; age++) {
                x.age(0, age);
                CHECK.due("breaks of kind " + kind + ", age " + age, x.hair(0, 3), due[kind][age]);
            }
        }
    }

    private static void breaksByStrain() {
        SwordSeat x = Check.told("hair dyed 9;hair sung 0;hair plain 0;load 1;");
        CHECK.due("load 1 on three, sung: not below 0", x.hair(1, 3), 0);
        CHECK.due("load 1 on three, plain", x.hair(2, 3), 0);
        x.set(0, 4);
        CHECK.due("load 4 on three is 2, sung", x.hair(1, 3), 0);
        CHECK.due("load 4 on three is 2, plain", x.hair(2, 3), 1);
        x.set(0, 7);
        CHECK.due("load 7 on three is 3, sung", x.hair(1, 3), 1);
        x.knot(2, false);
        CHECK.due("load 7 on two is 4, sung", x.hair(1, 3), 2);
        CHECK.due("broken", x.hair(2, 3), 0);
        x.knot(1, false);
        x.set(0, 9);
        CHECK.due("not above 10", x.hair(0, 3), 10);
    }

    private static void setting() {
        SwordSeat x = new SwordSeat();
        CHECK.due("set(0, 9)", x.set(0, 9), 3);
        CHECK.due("set(0, 1)", x.set(0, 1), 9);
        CHECK.due("set(0, 10)", x.set(0, 10), -1);
        CHECK.due("set(0, 0)", x.set(0, 0), -1);
        CHECK.due("load", x.rule(3), 1);
        CHECK.due("set(1, 99)", x.set(1, 99), 9);
        CHECK.due("set(1, 0)", x.set(1, 0), 99);
        CHECK.due("set(1, 100)", x.set(1, 100), -1);
        CHECK.due("set(1, -1)", x.set(1, -1), -1);
        CHECK.due("set(2, 1)", x.set(2, 1), -1);
        CHECK.due("set(-1, 1)", x.set(-1, 1), -1);
        CHECK.due("prize", x.rule(4), 0);
    }

    private static void aging() {
        SwordSeat x = Check.told("hair plain 4;hair damp 2;broken 0;");
        CHECK.due("age(0, 9)", x.age(0, 9), 4);
        CHECK.due("age(0, 0)", x.age(0, 0), 9);
        CHECK.due("age(0, 10)", x.age(0, 10), -1);
        CHECK.due("age(0, -1)", x.age(0, -1), -1);
        CHECK.due("age(2, 1)", x.age(2, 1), -1);
        CHECK.due("age(-1, 1)", x.age(-1, 1), -1);
        CHECK.due("it", x.hair(0, 1), 0);
        CHECK.due("the other one", x.hair(1, 1), 2);
        CHECK.due("broken it stays", x.hair(0, 2), 0);
    }

    private static void dyeing() {
        SwordSeat x = Check.told("hair doubled 4;");
        CHECK.due("dye(0, 4)", x.dye(0, 4), 3);
        CHECK.due("dye(0, 0)", x.dye(0, 0), 4);
        CHECK.due("dye(0, 5)", x.dye(0, 5), -1);
        CHECK.due("dye(0, -1)", x.dye(0, -1), -1);
        CHECK.due("dye(1, 1)", x.dye(1, 1), -1);
        CHECK.due("dye(-1, 1)", x.dye(-1, 1), -1);
        CHECK.due("it", x.hair(0, 0), 0);
        CHECK.due("its age stays", x.hair(0, 1), 4);
    }

    private static void knotting() {
        SwordSeat x = Check.told("hair sung 4;");
        CHECK.due("knot(1, true)", x.knot(1, true), -1);
        CHECK.due("knot(-1, false)", x.knot(-1, false), -1);
        CHECK.due("cut", x.knot(0, false), 1);
        CHECK.due("cut again", x.knot(0, false), 0);
        CHECK.due("it is broken", x.hair(0, 2), 0);
        CHECK.due("its age stays", x.hair(0, 1), 4);
        CHECK.due("fallen", x.rule(7), 1);
        CHECK.due("new", x.knot(0, true), 0);
        CHECK.due("it is whole", x.hair(0, 2), 1);
        CHECK.due("its age", x.hair(0, 1), 0);
        CHECK.due("its kind", x.hair(0, 0), 4);
        x.age(0, 7);
        CHECK.due("new in place of a whole one", x.knot(0, true), 1);
        CHECK.due("its age again", x.hair(0, 1), 0);
    }

    private static void paying() {
        SwordSeat x = Check.told("king 3 4;king 5 6;");
        CHECK.due("pay(0, 0, 9)", x.pay(0, 0, 9), 3);
        CHECK.due("pay(1, 1, 99)", x.pay(1, 1, 99), 6);
        CHECK.due("pay(0, 0, 10)", x.pay(0, 0, 10), -1);
        CHECK.due("pay(0, 1, 100)", x.pay(0, 1, 100), -1);
        CHECK.due("pay(0, 0, -1)", x.pay(0, 0, -1), -1);
        CHECK.due("pay(0, 1, -1)", x.pay(0, 1, -1), -1);
        CHECK.due("pay(0, 2, 1)", x.pay(0, 2, 1), -1);
        CHECK.due("pay(2, 0, 1)", x.pay(2, 0, 1), -1);
        CHECK.due("pay(-1, 0, 1)", x.pay(-1, 0, 1), -1);
        CHECK.due("king(0, 0)", x.king(0, 0), 9);
        CHECK.due("king(0, 1)", x.king(0, 1), 4);
        CHECK.due("pay(0, 0, 0)", x.pay(0, 0, 0), 9);
        CHECK.due("pay(0, 1, 0)", x.pay(0, 1, 0), 4);
        CHECK.due("king(0, 0) then", x.king(0, 0), 0);
        CHECK.due("king(1, 0)", x.king(1, 0), 5);
        CHECK.due("king(1, 1)", x.king(1, 1), 99);
    }

    private static void hours() {
        SwordSeat x = Check.told("hair plain 8;hair damp 9;hair dyed 0;");
        CHECK.due("a bit beyond", x.hour(8), -1);
        CHECK.due("below 0", x.hour(-1), -1);
        CHECK.due("least", x.hour(Integer.MIN_VALUE), -1);
        CHECK.due("nothing went", x.rule(5), 0);
        CHECK.due("hour(4)", x.hour(4), 2);
        CHECK.due("hour", x.rule(5), 1);
        CHECK.due("age 0", x.hair(0, 1), 9);
        CHECK.due("age 1, at most 9", x.hair(1, 1), 9);
        CHECK.due("a broken one grows older too", x.hair(2, 1), 1);
        CHECK.due("one that is broken", x.hour(5), -1);
        CHECK.due("hour(3)", x.hour(3), 0);
        CHECK.due("fallen, one that is broken", x.hour(1), -1);
        CHECK.due("fallen", x.hour(0), -2);
        CHECK.due("hour stays", x.rule(5), 2);
        CHECK.due("without hairs", new SwordSeat().hour(0), -2);
        CHECK.due("without hairs, a bit", new SwordSeat().hour(1), -1);
    }

    private static void hoursFull() {
        SwordSeat x = Check.told("hair plain 0;");
        for (int i = 1; i <= 99; i++) {
            CHECK.due("hour number " + i, x.hour(0), 1);
        }
        CHECK.due("hour number 100", x.hour(0), -3);
        CHECK.due("the wrong one first", x.hour(2), -1);
        CHECK.due("whole still", x.rule(6), 1);
        CHECK.due("hour", x.rule(5), 99);
        x.knot(0, false);
        CHECK.due("fallen first", x.hour(0), -2);
    }
}
