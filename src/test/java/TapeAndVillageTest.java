/** Promises 1 to 7: a new object, the tape, the village and its faults. */
public final class TapeAndVillageTest {
    private static final Due DUE = new Due();

    public static void main(String[] args) {
        newObject();
        tape();
        empties();
        villageTold();
        untoldAndBounds();
        goodTexts();
        syntax();
        range();
        twice();
        roomAndUnknown();
        faultLeavesAll();
        villageBeginsAnew();
        DUE.close();
    }

    private static void due(String call, int got, int want) {
        DUE.due(call, got, want);
    }

    private static void newObject() {
        OwnedByGuests x = new OwnedByGuests();
        int[] want = {0, 0, 2, 12, 2, 1, 1, 0, 0};
        for (int what = 0; what < want.length; what++) {
            due("new: told(" + what + ")", x.told(what), want[what]);
        }
        due("new: fault(0)", x.fault(0), 0);
        due("new: fault(1)", x.fault(1), OwnedByGuests.NONE);
        for (int what = 0; what < 3; what++) {
            due("new: count(" + what + ")", x.count(what), 0);
        }
        due("new: who(0, 0)", x.who(0, 0), -1000000);
        due("new: house(0, 0)", x.house(0, 0), OwnedByGuests.RANGE);
    }

    private static void tape() {
        OwnedByGuests x = new OwnedByGuests();
        for (int i = 1; i <= 45; i++) {
            due("feed " + i, x.feed(i, i, i, i, i), 20 * i);
        }
        due("feed beyond 900", x.feed(0, 0, 0, 0, 0), OwnedByGuests.FULL);
        due("count(2) of the full tape", x.count(2), 900);
        due("end(901)", x.end(901), OwnedByGuests.NONE);
        due("end(-1)", x.end(-1), OwnedByGuests.NONE);
        due("end(900)", x.end(900), 900);
        due("end(881)", x.end(881), 881);
        due("feed to 901", x.feed(0, 0, 0, 0, 0), OwnedByGuests.FULL);
        due("count(2) stays", x.count(2), 881);
        due("end(880)", x.end(880), 880);
        due("feed to 900", x.feed(0, 0, 0, 0, 0), 900);
        due("end(0)", x.end(0), 0);
        due("end(1) of none", x.end(1), OwnedByGuests.NONE);
        // "chai" "rs 3" ";aft" "er 7" ";las" and "t;": the highest byte of each is the first
        x.feed(0x63686169, 0x72732033, 0x3b616674, 0x65722037, 0x3b6c6173);
        x.feed(0x743b0000, 0, 0, 0, 0);
        x.end(22);
        due("village of three clauses", x.village(), 3);
        due("told(2)", x.told(2), 3);
        due("told(3)", x.told(3), 7);
        due("told(8)", x.told(8), 1);
    }

    private static void empties() {
        OwnedByGuests x = Due.of("person x;");
        Due.put(x, "A");
        due("village() with a fault", x.village(), OwnedByGuests.NONE);
        due("count(2) behind it", x.count(2), 0);
        Due.put(x, "oooo");
        due("plan of nobody", x.plan(1), OwnedByGuests.RANGE);
        due("count(2) behind it", x.count(2), 0);
        due("plan of an empty tape", x.plan(0), OwnedByGuests.NONE);
        due("feast() of a wrong row", Due.feast(x, "1"), OwnedByGuests.NONE);
        due("count(2) behind it", x.count(2), 0);
        due("book() of no book", Due.book(x, "x"), -1000);
        due("count(2) behind it", x.count(2), 0);
    }

    private static void villageTold() {
        OwnedByGuests x = new OwnedByGuests();
        String text = "house a 99 20 100; house b 0 0 0;\nperson x of b; person y; person z of a;"
            + "tie x y 0; tie y x 20; tie z y 11; work y 15; work z 1;"
            + "chairs 4; after 28; wear 20; mend 19; take 9; stroll 100; last;";
        due("village()", Due.village(x, text), 17);
        due("count(0)", x.count(0), 17);
        int[] want = {2, 3, 4, 28, 20, 19, 9, 100, 1, -1};
        for (int what = 0; what < want.length; what++) {
            due("told(" + what + ")", x.told(what), want[what]);
        }
        int[][] more = {{10, 99}, {11, 0}, {12, -1}, {19, -1}, {20, 20}, {21, 0}, {22, -1}, {30, 100}, {31, 0},
            {32, -1}, {40, 2}, {41, 0}, {42, -1}, {50, 1}, {51, -1}, {52, 0}, {53, -1}, {60, 0}, {61, 15}, {62, 1},
            {63, -1}, {70, -1}, {-1, -1}, {-10, -1}, {Integer.MIN_VALUE, -1}, {Integer.MAX_VALUE, -1}};
        for (int[] row : more) {
            due("told(" + row[0] + ")", x.told(row[0]), row[1]);
        }
        int[][] ties = {{0, 1, -10}, {1, 0, 10}, {2, 1, 1}, {1, 2, 0}, {0, 2, 0}, {0, 0, -1000}, {3, 0, -1000},
            {0, 3, -1000}, {-1, 0, -1000}, {0, -1, -1000}};
        for (int[] row : ties) {
            due("tie(" + row[0] + ", " + row[1] + ")", x.tie(row[0], row[1]), row[2]);
        }
        due("fault(0)", x.fault(0), 0);
        due("fault(1)", x.fault(1), OwnedByGuests.NONE);
        due("fault(2)", x.fault(2), OwnedByGuests.NONE);
        due("fault(-1)", x.fault(-1), OwnedByGuests.NONE);
        x.pass(5);
        due("told(10) is as told behind quarters", x.told(10), 99);
        due("told(30) is as told behind quarters", x.told(30), 100);
    }

    private static void untoldAndBounds() {
        OwnedByGuests x = Due.of("house h 0 0 0;");
        due("nobody's house", x.told(40), OwnedByGuests.NONE);
        due("chairs untold", x.told(2), 2);
        x = Due.of("chairs 1;after 0;wear 0;mend 0;take 0;stroll 0;");
        int[] least = {1, 0, 0, 0, 0, 0};
        for (int i = 0; i < least.length; i++) {
            due("least rule " + i, x.told(2 + i), least[i]);
        }
        due("a later village forgets rules", Due.village(x, "last;"), 1);
        due("chairs again as untold", x.told(2), 2);
        due("after again as untold", x.told(3), 12);
        Due.village(x, "house h 0 0 0;person x of h;person y;tie x y 3;work y 5;last;");
        for (int i = 0; i < 2; i++) {
            due("village() of the same people", Due.village(x, "house h 0 0 0;person x;person y;"), 3);
        }
        due("last again as untold", x.told(8), 0);
        due("a later village forgets ties", x.tie(0, 1), 0);
        due("a later village forgets work", x.told(61), 0);
        due("a later village forgets whose a house is", x.told(40), OwnedByGuests.NONE);
        due("a later village forgets what is whose", x.told(50), OwnedByGuests.NONE);
        due("it is told anew", Due.village(x, "house h 0 0 0;person x;person y;tie x y 3;work y 5;last;wear 1;"), 7);
    }

    private static void goodTexts() {
        good("", 0);
        good(" \n ", 0);
        good("house abcdefgh 000 020 100;", 1);
        good("house a1 2 3;", 1);
        good("house\na 1\n2 3\n;\n", 1);
        good("person of;", 1);
        good("house of 1 1 1;person of of of;", 2);
        good("house last 1 1 1;person last of last;last;", 3);
        good("house x 1 1 1;person x;", 2);
        good("person a;person aa;person b;person bb;person ab;", 5);
        good("person z;person zz;person zzzzzzzz;person yzzzzzzz;person y;", 5);
        good("person x;person y;tie x y 1;tie y x 1;", 4);
        good("person a;person b;person c;person d;person e;", 5);
        good("house a 1 1 1;house b 1 1 1;house c 1 1 1;house d 1 1 1;house e 1 1 1;", 5);
    }

    private static void syntax() {
        bad("house a 1 2 3", 1, 13);
        bad("house a 1 2 3 \n", 1, 15);
        bad("house", 1, 5);
        bad("House a 1 2 3;", 1, 0);
        bad(";", 1, 0);
        bad("last;;", 1, 5);
        bad("3;", 1, 0);
        bad("guest;", 1, 0);
        bad("houses a 1 2 3;", 1, 0);
        bad("mouse a 1 2 3;", 1, 0);
        bad("hous a 1 2 3;", 1, 0);
        bad("past;", 1, 0);
        bad("house abcdefghi 1 2 3;", 1, 6);
        bad("house a 1 2 1000;", 1, 12);
        bad("house a 1 2 0000;", 1, 12);
        bad("house a 1 2;", 1, 11);
        bad("house a b 2 3;", 1, 8);
        bad("house 1 2 3;", 1, 6);
        bad("house a 1 2 3 4;", 1, 14);
        bad("person x y;", 1, 9);
        bad("person x ofa;", 1, 9);
        bad("person x of;", 1, 11);
        bad("person x of 3;", 1, 12);
        bad("person ;", 1, 7);
        bad("person x;tie 5 x 3;", 1, 13);
        bad("person x;tie x 5;", 1, 15);
        bad("person x;work 3;", 1, 14);
        bad("person x;work x;", 1, 15);
        bad("chairs;", 1, 6);
        bad("last 3;", 1, 5);
        bad("last;\tlast;", 1, 5);
        bad("last\u00ff;", 1, 4);
        bad("last\u0000;", 1, 4);
        bad("house -1 2 3;", 1, 6);
        bad("of;", 1, 0);
    }

    private static void range() {
        bad("house a 100 99 999;", 2, 8);
        bad("house a 99 21 0;", 2, 11);
        bad("house a 99 20 101;", 2, 14);
        bad("person x;person y;tie x y 21;", 2, 26);
        bad("person x;work x 0;", 2, 16);
        bad("person x;work x 16;", 2, 16);
        bad("chairs 0;", 2, 7);
        bad("chairs 5;", 2, 7);
        bad("after 29;", 2, 6);
        bad("wear 21;", 2, 5);
        bad("mend 21;", 2, 5);
        bad("take 10;", 2, 5);
        bad("stroll 101;", 2, 7);
    }

    private static void twice() {
        bad("house a 1 2 3;house a", 3, 20);
        bad("person a;person a;", 3, 16);
        bad("house a 1 1 1;person x of a;person y of a;", 3, 40);
        bad("person x;person y;tie x x 5;", 3, 24);
        bad("person x;person y;tie x y 5;tie y x 5;tie x y 5;", 3, 44);
        bad("person x;work x 3;work x 4;", 3, 23);
        String[] rules = {"chairs", "after", "wear", "mend", "take", "stroll"};
        for (String rule : rules) {
            bad(rule + " 2;" + rule + " 2;", 3, rule.length() + 3);
        }
        bad("last;last;", 3, 5);
        // the same tie told with 10 is told too
        bad("person x;person y;tie x y 10;tie x y 11;", 3, 35);
    }

    private static void roomAndUnknown() {
        bad("house a 1 1 1;house b 1 1 1;house c 1 1 1;house d 1 1 1;house e 1 1 1;house a", 4, 70);
        bad("person a;person b;person c;person d;person e; person f;", 4, 46);
        bad("person x of b;", 5, 12);
        bad("person b;person x of b;", 5, 21);
        bad("person x of a;house a 1 1 1;", 5, 12);
        bad("house a 1 1 1;tie a a 5;", 5, 18);
        bad("person x;tie z x 5;", 5, 13);
        bad("person x;tie x z 5;", 5, 15);
        bad("person x;work y 3;", 5, 14);
        bad("work x 3;person x;", 5, 5);
    }

    private static void faultLeavesAll() {
        OwnedByGuests x = Due.of("house h 9 10 100;person x of h;person y;chairs 3;");
        Due.plan(x, 1, "0000");
        x.lets(0, 30);
        x.pass(3);
        x.keep(1);
        Due.feast(x, "10");
        due("village() with a fault", Due.village(x, "house k 1 1 1;house k"), OwnedByGuests.NONE);
        due("fault(0)", x.fault(0), 3);
        due("fault(1)", x.fault(1), 20);
        due("count(0) stays", x.count(0), 4);
        due("told(0) stays", x.told(0), 1);
        due("told(10) stays", x.told(10), 9);
        due("told(2) stays", x.told(2), 3);
        due("count(1) stays", x.count(1), 3);
        due("planned(1, 0) stays", x.planned(1, 0), 0);
        due("house(0, 0) stays", x.house(0, 0), 1);
        due("turned(0, 1) stays", x.turned(0, 1), 1);
        due("take(1) stays", x.take(1), 3);
        due("lets(0) stay", x.lets(0, 31), 30);
        due("village() without", Due.village(x, "last;"), 1);
        due("fault(0) is gone", x.fault(0), 0);
        due("fault(1) is gone", x.fault(1), OwnedByGuests.NONE);
    }

    private static void villageBeginsAnew() {
        OwnedByGuests x = Due.of("house h 9 10 100;person x of h;person y;");
        Due.plan(x, 1, "0000");
        x.lets(0, 0);
        x.pass(3);
        x.keep(0);
        Due.feast(x, "10");
        due("village() again", Due.village(x, "house h 9 10 100;person x of h;person y;"), 3);
        due("count(1)", x.count(1), 0);
        due("planned(1, 0)", x.planned(1, 0), OwnedByGuests.NONE);
        due("planned(0, 0)", x.planned(0, 0), 0);
        due("lets(0)", x.lets(0, 31), 31);
        due("who(0, 3)", x.who(0, 3), 0);
        due("who(0, 2)", x.who(0, 2), 0);
        due("who(0, 1)", x.who(0, 1), 0);
        due("house(0, 1)", x.house(0, 1), 9);
        due("take(0)", x.take(0), OwnedByGuests.STATE);
        due("turned(0, 1)", x.turned(0, 1), OwnedByGuests.NONE);
    }

    private static void good(String text, int clauses) {
        OwnedByGuests x = new OwnedByGuests();
        due("village() of '" + text + "'", Due.village(x, text), clauses);
        due("fault(0) of '" + text + "'", x.fault(0), 0);
        due("count(0) of '" + text + "'", x.count(0), clauses);
    }

    private static void bad(String text, int kind, int place) {
        OwnedByGuests x = new OwnedByGuests();
        due("village() of '" + text + "'", Due.village(x, text), OwnedByGuests.NONE);
        due("fault(0) of '" + text + "'", x.fault(0), kind);
        due("fault(1) of '" + text + "'", x.fault(1), place);
        due("count(0) of '" + text + "'", x.count(0), 0);
    }
}
