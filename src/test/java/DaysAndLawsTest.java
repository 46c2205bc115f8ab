/** Promises 23 to 29: days, guards, rings, when to be out, bounds, laws. */
public final class DaysAndLawsTest {
    private static final Due DUE = new Due();
    private static final String GUEST = "house h 0 10 100;person x of h;person z;";

    public static void main(String[] args) {
        longer();
        guards();
        ringsOfTwo();
        ringsOfThree();
        ringsAndStrangers();
        when();
        bounds();
        laws();
        bestLaws();
        lastLaws();
        trialsChangeNothing();
        DUE.close();
    }

    private static void due(String call, int got, int want) {
        DUE.due(call, got, want);
    }

    private static OwnedByGuests guest() {
        OwnedByGuests x = Due.of(GUEST);
        Due.plan(x, 1, "0000");
        return x;
    }

    private static void longer() {
        OwnedByGuests x = Due.of("house h 10 10 100;person x of h;person z;");
        due("longer(0, 1, 0)", x.longer(0, 1, 0), 6);
        due("longer(0, 3, 0)", x.longer(0, 3, 0), 0);
        due("longer(0, 1, 1)", x.longer(0, 1, 1), 100);
        Due.plan(x, 1, "0000");
        due("longer(0, 1, 1) with a guest", x.longer(0, 1, 1), 92);
        due("longer(0, 3, 1): he counts for 12 quarters", x.longer(0, 3, 1), 76);
        due("longer(0, 4, 1): then it is mended", x.longer(0, 4, 1), 80);
        due("longer(0, 60, 1)", x.longer(0, 60, 1), 100);
        due("longer(0, 60, 0)", x.longer(0, 60, 0), 0);
        int[][] wrong = {{0, 0, 0}, {0, 61, 0}, {0, -1, 0}, {0, 1, 2}, {0, 1, -1}, {1, 1, 0}, {-1, 1, 0}};
        for (int[] row : wrong) {
            due("longer(" + row[0] + ", " + row[1] + ", " + row[2] + ")", x.longer(row[0], row[1], row[2]),
                OwnedByGuests.RANGE);
        }
    }

    private static void guards() {
        String text = "house h 0 0 100;house k 0 5 100;person x of h;person y of k;person z;tie y x ";
        OwnedByGuests x = Due.of(text + "14;");
        due("guard(0, 1): 16 are less than 20", x.guard(0, 1), 0);
        due("guard(1, 0): 5, 4, 4, 4 are more than none", x.guard(1, 0), 1);
        x = Due.of(text + "15;");
        due("guard(0, 1): 20 are as many", x.guard(0, 1), 1);
        Due.plan(x, 1, "oooo");
        due("guard(0, 1) beside his plan", x.guard(0, 1), 1);
        due("planned(1, 0) stays", x.planned(1, 0), OwnedByGuests.NONE);
        due("guard(2, 0) of a stranger", x.guard(2, 0), OwnedByGuests.NONE);
        due("guard(0, 0)", x.guard(0, 0), OwnedByGuests.RANGE);
        due("guard(2, 2)", x.guard(2, 2), OwnedByGuests.RANGE);
        due("guard(3, 0)", x.guard(3, 0), OwnedByGuests.RANGE);
        due("guard(0, 3)", x.guard(0, 3), OwnedByGuests.RANGE);
        due("guard(-1, 0)", x.guard(-1, 0), OwnedByGuests.RANGE);
        due("guard(0, -1)", x.guard(0, -1), OwnedByGuests.RANGE);
    }

    private static void rings(String of, OwnedByGuests x, int many, int least) {
        due("rings(0) of " + of, x.rings(0), many);
        due("rings(1) of " + of, x.rings(1), least);
    }

    private static void ringsOfTwo() {
        String houses = "house h 0 10 100;house k 0 10 100;";
        rings("two", Due.of(houses + "person x of h;person y of k;"), 1, 10);
        rings("two with the other's number", Due.of(houses + "person x of k;person y of h;"), 1, 1);
        rings("two who'd rather be at home", Due.of(houses + "person x of h;person y of k;after 0;"), 0, -1);
        rings("one", Due.of(houses + "person x of h;person y;"), 0, -1);
        OwnedByGuests x = Due.of(houses + "person x of h;person y of k;work y 1;");
        rings("two of whom one must work", x, 0, -1);
        x.pass(1);
        rings("two of whom one needn't now", x, 1, 10);
        due("rings(2)", x.rings(2), OwnedByGuests.RANGE);
        due("rings(-1)", x.rings(-1), OwnedByGuests.RANGE);
        x = Due.of(houses + "house free 0 11 100;person x of h;person y of k;");
        rings("two with a better house that is nobody's", x, 0, -1);
        x = Due.of(houses + "house free 0 10 100;person x of h;person y of k;");
        rings("two with a house that is nobody's", x, 1, 10);
    }

    private static void ringsOfThree() {
        String houses = "house a 0 10 100;house b 0 10 100;house c 0 10 100;";
        OwnedByGuests x = Due.of(houses + "person x of a;person y of b;person z of c;");
        rings("three", x, 2, 120);
        x = Due.of(houses + "person x of a;person y of b;person z of c;work z 1;");
        rings("three of whom one must work", x, 0, -1);
        x = Due.of("house a 0 10 100;house b 0 10 100;house c 0 10 100;house d 0 10 100;house e 0 10 100;"
            + "person x of a;person y of b;person z of c;person v of d;person w of e;");
        rings("five", x, 44, 10342);
        // x would rather be in c than in b, and come there ahead of y; z finds no other place of his own
        x = Due.of("house a 0 10 100;house b 0 0 100;house c 0 10 100;person x of a;person y of b;person z of c;");
        rings("three with a house that is worth nothing", x, 1, 201);
    }

    private static void ringsAndStrangers() {
        OwnedByGuests x = Due.of("house h 0 10 100;house k 0 10 100;person s;person x of h;person y of k;");
        rings("two beside a stranger", x, 1, 910);
        // the stranger goes by his plan: he comes to h first and has it
        Due.plan(x, 0, "0ooo");
        rings("two beside a guest of one", x, 1, 910);
        x.lets(0, 0);
        rings("two beside a guest who lets nobody in", x, 1, 910);
        Due.village(x, "house h 0 10 100;house k 0 10 100;house f 0 5 100;person s;person x of h;person y of k;");
        rings("two with a lesser house", x, 1, 910);
        Due.plan(x, 0, "0ooo");
        rings("two beside a guest of one: y would rather be in f", x, 0, -1);
        // in k is s, in h is y: x would rather be out
        Due.village(x, "house h 0 0 100;house k 0 0 100;person x of h;person y of k;person s;tie x s 0;tie x y 0;");
        Due.plan(x, 2, "1111");
        rings("two of whom one would rather be out", x, 0, -1);
        Due.plan(x, 2, "oooo");
        rings("two of whom one is alone", x, 1, 109);
        Due.village(x, "house h 0 10 100;house k 0 10 100;house f 0 5 100;person s;person x of h;person y of k;"
            + "work s 1;");
        Due.plan(x, 0, "0ooo");
        rings("two beside one who must work, whatever he plans", x, 1, 910);
    }

    private static void when() {
        OwnedByGuests x = Due.of("house h 0 10 100;person x of h;");
        due("when(0) of alike ones", x.when(0), 0);
        x = Due.of("house h 0 0 100;person x of h;person z;tie x z 0;");
        Due.plan(x, 1, "oo0o");
        due("when(0) a bad guest comes", x.when(0), 2);
        x.pass(1);
        due("when(0) in the middle of a day", x.when(0), 2);
        due("planned(0, 2) stays", x.planned(0, 2), 0);
        x = Due.of("house h 0 10 100;person x of h;work x 8;");
        due("when(0): at work he is out anyway", x.when(0), 3);
        due("when(1)", x.when(1), OwnedByGuests.RANGE);
        due("when(-1)", x.when(-1), OwnedByGuests.RANGE);
    }

    private static void bounds() {
        OwnedByGuests x = guest();
        // by after 0 .. 4 x has 40, 28, 18, 9, 0: as many quarters as z has it no more
        int[][] want = {{9999, 0}, {40, 0}, {39, 1}, {28, 1}, {27, 2}, {18, 2}, {17, 3}, {9, 3}, {8, 4}, {0, 4},
            {-1, -1}, {-1000, -1}, {-1001, -2}, {10000, -2}};
        for (int[] row : want) {
            due("bound(0, " + row[0] + ")", x.bound(0, row[0]), row[1]);
        }
        due("bound(2, 0)", x.bound(2, 0), OwnedByGuests.RANGE);
        due("bound(-1, 0)", x.bound(-1, 0), OwnedByGuests.RANGE);
        due("told(3) stays", x.told(3), 12);
        x.pass(24);
        // z stayed 23, and stays 24 to 27
        due("bound(0, 0) of the greatest after", x.bound(0, 0), 28);
    }

    private static void law(OwnedByGuests x, boolean isLast, int after, int d, int gain, int lost) {
        String call = "law(" + isLast + ", " + after + ", " + d + ", ";
        due(call + "0)", x.law(isLast, after, d, 0), gain);
        due(call + "1)", x.law(isLast, after, d, 1), lost);
    }

    private static void laws() {
        OwnedByGuests x = guest();
        law(x, false, 0, 1, 40, 0);
        law(x, false, 1, 1, 38, 0);
        law(x, false, 2, 1, 37, 2);
        law(x, true, 4, 1, 37, 8);
        law(x, false, 28, 2, 10 + 9 + 9 + 9 + 9 + 9 + 8 + 8, 16);
        x.pass(1);
        law(x, false, 0, 1, 9 + 9 + 10 + 10, -2);
        Due.village(x, "house h 0 10 40;person x of h;");
        law(x, true, 5, 1, 16, -4);
        law(x, true, 5, 20, 10 * (4 + 5 + 6 + 7 + 8 + 9) + 20 * 10, -60);
        int[][] wrong = {{-1, 1, 0}, {29, 1, 0}, {0, 0, 0}, {0, 21, 0}, {0, 1, 2}, {0, 1, -1}};
        for (int[] row : wrong) {
            due("law(false, " + row[0] + ", " + row[1] + ", " + row[2] + ")",
                x.law(false, row[0], row[1], row[2]), -1000000);
        }
    }

    private static void bestLaws() {
        OwnedByGuests x = guest();
        due("bestLaw(1)", x.bestLaw(1), 0);
        // x isn't at home: only a guest that counts has anything, the longer the better
        Due.plan(x, 0, "oooo");
        due("bestLaw(1) with x out", x.bestLaw(1), 4);
        due("bestLaw(2) with x out", x.bestLaw(2), 8);
        due("bestLaw(20) with x out", x.bestLaw(20), 28);
        due("bestLaw(0)", x.bestLaw(0), OwnedByGuests.RANGE);
        due("bestLaw(21)", x.bestLaw(21), OwnedByGuests.RANGE);
        due("bestLaw(-1)", x.bestLaw(-1), OwnedByGuests.RANGE);
    }

    /** Only by last has z the house beside y, and z alone lets w in, who likes y. */
    private static void lastLaws() {
        OwnedByGuests x = Due.of("chairs 4;house h 0 0 100;person x of h;person y;person z;person w;tie w y 20;");
        x.lets(0, 2);
        x.lets(1, 4);
        Due.plan(x, 1, "0000");
        Due.plan(x, 2, "0000");
        Due.plan(x, 3, "o000");
        due("law(false, 2, 1, 0)", x.law(false, 2, 1, 0), 0);
        due("law(true, 1, 1, 0)", x.law(true, 1, 1, 0), 0);
        due("law(true, 2, 1, 0)", x.law(true, 2, 1, 0), 30);
        due("bestLaw(1)", x.bestLaw(1), 102);
    }

    private static void trialsChangeNothing() {
        OwnedByGuests x = guest();
        x.pass(1);
        x.longer(0, 60, 0);
        x.guard(0, 1);
        x.rings(0);
        x.when(0);
        x.bound(0, 0);
        x.law(true, 3, 20, 0);
        x.bestLaw(20);
        due("told(3)", x.told(3), 12);
        due("told(8)", x.told(8), 0);
        due("count(1)", x.count(1), 1);
        due("house(0, 2)", x.house(0, 2), 98);
        due("who(1, 3)", x.who(1, 3), 10);
        due("planned(0, 0)", x.planned(0, 0), 0);
        due("planned(1, 3)", x.planned(1, 3), 0);
    }
}
