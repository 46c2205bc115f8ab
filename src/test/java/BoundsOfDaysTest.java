/** Terms III from GUARD to LAWS and promises 23 to 29: a test for each sentence that names a boundary. */
public final class BoundsOfDaysTest {
    private static final Due DUE = new Due();
    private static final Twins TWINS = new Twins(DUE);
    private static final int NONE = OwnedByGuests.NONE;
    private static final int RANGE = OwnedByGuests.RANGE;
    private static final int NO_GAIN = -1000000;
    private static final int[] WILD = {Integer.MIN_VALUE, -1000000, -1, Integer.MAX_VALUE, 1000000};
    private static final String THREE = "house a 0 10 100;house b 0 10 100;house c 0 10 100;";

    public static void main(String[] args) {
        longerByDays();
        longerAsked();
        guardIsAtLeast();
        guardAllFourQuarters();
        guardAsked();
        ringsOfTwoAtLeast();
        ringsWithoutWorkers();
        ringsInAnothers();
        ringsWithoutMore();
        ringsByHand();
        ringDigits();
        ringsAsked();
        whenIsGreatest();
        whenOfAlikeOnes();
        whenAsked();
        boundOfAfters();
        boundIsAtMost();
        boundAsked();
        lawsByHand();
        lawsFromNow();
        stateLost();
        lawAsked();
        bestLawByHand();
        bestLawOfAlikeOnes();
        bestLawAsked();
        DUE.close();
    }

    private static void due(String call, int got, int want) {
        DUE.due(call, got, want);
    }

    // ---- days

    private static void longerByDays() {
        DUE.says("In a TRIAL of d days (1 .. 60) by PLANS, of a HOUSE, what 0: STORE, 1: STATE then");
        String text = "house h 99 9 90;house k 50 5 10;person o of h;person z;person w of k;work w 6;after 5;chairs 1;";
        for (int passed = 0; passed < 2; passed++) {
            OwnedByGuests x = Due.of(text);
            Due.plan(x, 1, "0010");
            x.pass(passed);
            for (int d : new int[] {1, 2, 30, 60}) {
                x.keep(0);
                int[] got = {x.longer(0, d, 0), x.longer(0, d, 1), x.longer(1, d, 0), x.longer(1, d, 1)};
                x.pass(4 * d);
                for (int i = 0; i < 4; i++) {
                    due("longer(" + i / 2 + ", " + d + ", " + i % 2 + ")", got[i], x.house(i / 2, 1 + i % 2));
                }
                x.take(0);
            }
        }
        // without strolling: by the seed 1 he would be out a good deal
        OwnedByGuests x = Due.of("stroll 100;mend 2;house h 0 9 0;person o of h;");
        due("longer(0, 10, 1)", x.longer(0, 10, 1), 80);
        due("longer(0, 60, 1)", x.longer(0, 60, 1), 100);
    }

    private static void longerAsked() {
        DUE.says("In a TRIAL of d days (1 .. 60) by PLANS, of a HOUSE, what 0: STORE, 1: STATE then; RANGE.");
        int[][] wrong = {{0, 0, 0}, {0, 61, 0}, {0, -1, 1}, {0, 1, -1}, {0, 1, 2}, {-1, 1, 0}, {2, 1, 0}, {5, 60, 1}};
        for (int[] row : wrong) {
            TWINS.refused("longer(" + row[0] + ", " + row[1] + ", " + row[2] + ")",
                x -> x.longer(row[0], row[1], row[2]), RANGE);
        }
        for (int wild : WILD) {
            TWINS.refused("longer(" + wild + ", 1, 0)", x -> x.longer(wild, 1, 0), RANGE);
            TWINS.refused("longer(0, " + wild + ", 0)", x -> x.longer(0, wild, 0), RANGE);
            TWINS.refused("longer(0, 1, " + wild + ")", x -> x.longer(0, 1, wild), RANGE);
        }
        OwnedByGuests x = Due.of("house a 1 1 1;house b 1 1 1;house c 1 1 1;house d 1 1 1;house e 7 1 3;");
        due("longer(4, 60, 0)", x.longer(4, 60, 0), 7);
        due("longer(4, 60, 1)", x.longer(4, 60, 1), 3);
        due("longer(5, 60, 1)", x.longer(5, 60, 1), RANGE);
    }

    // ---- guards

    private static void guardIsAtLeast() {
        DUE.says("f's SUM with a PLAN of that HOUSE in all four quarters is at least that with his own.");
        // at home f has 5 a quarter; in h, where x is, the tie alone, since after 0 no guest has a house
        int[] ties = {0, 9, 14, 15, 16, 20};
        for (int tie : ties) {
            OwnedByGuests x = Due.of("after 0;house h 0 9 100;house k 0 5 100;person x of h;person f of k;tie f x " + tie + ";");
            due("guard(0, 1) with a tie of " + (tie - 10), x.guard(0, 1), tie - 10 >= 5 ? 1 : 0);
            due("planned(1, 0) stays", x.planned(1, 0), 1);
        }
        // nothing is as much as nothing
        OwnedByGuests x = Due.of("after 0;house h 0 0 0;person x of h;person z;");
        due("guard(0, 1) for nothing", x.guard(0, 1), 1);
        x = Due.of("after 0;house h 0 0 0;person x of h;person z;tie z x 9;");
        due("guard(0, 1) for less than nothing", x.guard(0, 1), 0);
        x.lets(0, 0);
        due("guard(0, 1) who isn't let in is out", x.guard(0, 1), 1);
    }

    private static void guardAllFourQuarters() {
        DUE.says("f's SUM with a PLAN of that HOUSE in all four quarters is at least that with his own.");
        // in quarter 3 alone v is there, whom f dislikes by 10; in the others he has 3 of x: 9 less 7 are 2
        String text = "after 0;chairs 4;house h 0 0 0;house k 0 0 0;person x of h;person f of k;person v;tie f x 13;tie f v ";
        OwnedByGuests x = Due.of(text + "0;");
        Due.plan(x, 2, "ooo0");
        due("guard(0, 1): 12 less 10", x.guard(0, 1), 1);
        x = Due.of(text + "0;person w;tie f w 7;");
        Due.plan(x, 2, "ooo0");
        Due.plan(x, 3, "ooo0");
        due("guard(0, 1): 12 less 13", x.guard(0, 1), 0);
        x.pass(1);
        due("guard(0, 1) in the middle of a day", x.guard(0, 1), 0);
        // who must work all day is as well with this plan as with that
        x = Due.of("house h 0 0 0;person x of h;person f;tie f x 0;work f 15;");
        due("guard(0, 1) who must work", x.guard(0, 1), 1);
    }

    private static void guardAsked() {
        DUE.says("1 if a GUARD of a PERSON's HOUSE HOLDS, else 0; NONE: that PERSON has no HOUSE; RANGE: also alike ones.");
        TWINS.refused("guard(1, 0) of a stranger", x -> x.guard(1, 0), NONE);
        TWINS.refused("guard(1, 2) of a stranger", x -> x.guard(1, 2), NONE);
        int[][] wrong = {{0, 0}, {2, 2}, {1, 1}, {0, 3}, {3, 0}, {-1, 0}, {0, -1}, {1, 3}, {1, -1}, {-1, -1}};
        for (int[] row : wrong) {
            TWINS.refused("guard(" + row[0] + ", " + row[1] + ")", x -> x.guard(row[0], row[1]), RANGE);
        }
        for (int wild : WILD) {
            TWINS.refused("guard(" + wild + ", 0)", x -> x.guard(wild, 0), RANGE);
            TWINS.refused("guard(0, " + wild + ")", x -> x.guard(0, wild), RANGE);
        }
        TWINS.asks("guard(0, 1) by a stranger", x -> x.guard(0, 1));
    }

    // ---- rings

    private static void rings(String text, int many, int least) {
        OwnedByGuests x = Due.of(text);
        due("rings(0) of " + text, x.rings(0), many);
        due("rings(1) of " + text, x.rings(1), least);
    }

    private static void ringsOfTwoAtLeast() {
        DUE.says("RINGS: of PEOPLE who have a HOUSE (two at least");
        rings("", 0, NONE);
        rings(THREE, 0, NONE);
        rings("person x;person y;", 0, NONE);
        rings(THREE + "person x;person y;person z;", 0, NONE);
        rings(THREE + "person x of a;", 0, NONE);
        rings(THREE + "person x of a;person y;person z;", 0, NONE);
        rings(THREE + "person x of a;person y of b;", 1, 10);
        rings(THREE + "person x of a;person y of c;", 1, 20);
        rings(THREE + "person x of a;person y of b;person z of c;", 2, 120);
    }

    private static void ringsWithoutWorkers() {
        DUE.says("none of whom must work in the next QUARTER)");
        for (int bits = 1; bits <= 15; bits++) {
            OwnedByGuests x = Due.of(THREE + "person x of a;person y of b;person s;work y " + bits + ";");
            for (int passed = 0; passed < 5; passed++) {
                boolean works = (bits >> passed % 4) % 2 == 1;
                due("rings(0), work " + bits + " with " + passed + " passed", x.rings(0), works ? 0 : 1);
                due("rings(1), work " + bits + " with " + passed + " passed", x.rings(1), works ? NONE : 109);
                x.pass(1);
            }
        }
        // a stranger's work is none of theirs
        rings(THREE + "person s;person x of a;person y of b;work s 15;", 1, 910);
    }

    private static void ringsInAnothers() {
        DUE.says("each wishes to be in another one's, no two in the same");
        // four and five of them: as many as there are rows without one at his own place
        String houses = "house a 0 10 100;house b 0 10 100;house c 0 10 100;house d 0 10 100;";
        rings(houses + "person x of a;person y of b;person z of c;person v of d;", 9, 1032);
        rings(houses + "house e 0 10 100;person x of a;person y of b;person z of c;person v of d;person w of e;", 44, 10342);
        rings(houses + "house e 0 10 100;person x of e;person y of d;person z of c;person v of b;person w of a;", 44, 1324);
        // a house that is nobody's is no other one's
        rings(houses + "person x of a;person y of d;", 1, 30);
    }

    private static void ringsWithoutMore() {
        DUE.says("no one of them would have more GAIN by another wish alone.");
        // the third house is nobody's: as good as the others' is no more, one point better is
        rings("house a 0 10 100;house b 0 10 100;house free 0 10 100;person x of a;person y of b;", 1, 10);
        rings("house a 0 10 100;house b 0 10 100;house free 0 11 100;person x of a;person y of b;", 0, NONE);
        rings("house a 0 10 100;house b 0 10 100;house free 1 10 100;person x of a;person y of b;", 0, NONE);
        rings("take 0;house a 0 10 100;house b 0 10 100;house free 1 10 100;person x of a;person y of b;", 1, 10);
        // at home, in a house that is worth more, he isn't alone: y is his guest and has it
        rings("house a 0 10 100;house b 0 9 100;person x of a;person y of b;", 1, 10);
        // by after 0 only whose it is has a house
        rings("after 0;house a 0 10 100;house b 0 10 100;person x of a;person y of b;", 0, NONE);
        rings("after 0;house a 0 0 100;house b 0 0 100;person x of a;person y of b;", 1, 10);
        // out is another wish too: beside y, whom he doesn't like, he'd rather be there
        rings("chairs 4;house a 0 0 0;house b 0 0 0;house c 0 0 0;person x of a;person y of b;person s;", 1, 109);
        OwnedByGuests beside = Due.of("chairs 4;house a 0 0 0;house b 0 0 0;person x of a;person y of b;person s;"
            + "tie x s 9;tie x y 9;");
        due("rings(0) without s", beside.rings(0), 1);
        Due.plan(beside, 2, "1111");
        due("rings(0) beside s", beside.rings(0), 0);
        due("rings(1) beside s", beside.rings(1), NONE);
        DUE.says("(the others: by their PLANS)");
        String text = "house a 0 10 100;house b 0 10 100;house free 0 5 100;person s;person x of a;person y of b;";
        OwnedByGuests x = Due.of(text);
        Due.plan(x, 0, "o0oo");
        due("rings(0) while s is out", x.rings(0), 1);
        x.pass(1);
        // s comes to a ahead of y and has it: y would rather be in the free one
        due("rings(0) when s comes to a", x.rings(0), 0);
        due("rings(1) when s comes to a", x.rings(1), NONE);
    }

    /** Every ring and every other wish in it is tried by plans and a quarter that passes. */
    private static void ringsByHand() {
        DUE.says("by these wishes for the next QUARTER (the others: by their PLANS) no one of them would have more GAIN by"
            + " another wish alone.");
        String[] laws = {"", "last;chairs 1;", "after 1;chairs 4;", "after 0;"};
        String[] ties = {"", "tie x y 14;tie y z 3;tie z x 12;", "tie x y 0;tie y x 0;tie z y 20;tie y z 20;"};
        for (String law : laws) {
            for (String tie : ties) {
                String text = law + "house a 3 9 100;house b 0 12 70;house c 5 6 90;"
                    + "person x of a;person y of b;person z of c;" + tie;
                ringsByHand(text);
            }
        }
    }

    private static void ringsByHand(String text) {
        int[][] rows = {{1, 2, 0}, {2, 0, 1}};
        OwnedByGuests x = Due.of(text);
        x.pass(1);
        x.keep(0);
        int found = 0;
        int least = NONE;
        for (int[] row : rows) {
            boolean isRing = true;
            for (int p = 0; p < 3 && isRing; p++) {
                int gain = gainBy(x, row, p, row[p]);
                for (int place = 0; place < 4 && isRing; place++) {
                    isRing = place == row[p] || gainBy(x, row, p, place) <= gain;
                }
            }
            if (isRing) {
                found++;
                if (least == NONE) {
                    least = row[0] * 100 + row[1] * 10 + row[2];
                }
            }
        }
        due("rings(0) of " + text, x.rings(0), found);
        due("rings(1) of " + text, x.rings(1), least);
    }

    private static int gainBy(OwnedByGuests x, int[] row, int person, int place) {
        for (int p = 0; p < 3; p++) {
            int wish = p == person ? place : row[p];
            Due.plan(x, p, (wish == 3 ? "o" : String.valueOf(wish)).repeat(4));
        }
        x.pass(1);
        int gain = x.who(person, 2);
        x.take(0);
        return gain;
    }

    private static void ringDigits() {
        DUE.says("1: the least one, as digits (of PEOPLE by numbers the HOUSE that each wishes, 9 for those who have none),"
            + " as a number (NONE)");
        rings(THREE + "person x of a;person y of b;person s;", 1, 109);
        rings(THREE + "person s;person x of a;person y of b;", 1, 910);
        rings(THREE + "person x of a;person s;person y of b;", 1, 190);
        rings(THREE + "person s;person t;person u;person x of a;person y of b;", 1, 99910);
        rings(THREE + "person x of a;person s;person t;person u;person y of b;", 1, 19990);
        rings(THREE + "person x of b;person y of a;person s;person t;person u;", 1, 1999);
        rings(THREE + "person x of b;person y of a;", 1, 1);
        rings(THREE + "person x of b;person y of c;person z of a;", 2, 12);
        // strangers first and the last houses: the greatest number there is
        rings("house a 0 10 100;house b 0 10 100;house c 0 10 100;house d 0 10 100;house e 0 10 100;"
            + "person s;person t;person u;person x of d;person y of e;", 1, 99943);
    }

    private static void ringsAsked() {
        DUE.says("RINGS, what 0: how many, 1: the least one");
        for (int what : new int[] {-1, 2, 3, Integer.MAX_VALUE, Integer.MIN_VALUE}) {
            TWINS.refused("rings(" + what + ")", x -> x.rings(what), RANGE);
        }
        due("rings(2) of a new one", new OwnedByGuests().rings(2), RANGE);
    }

    // ---- when

    private static void whenIsGreatest() {
        DUE.says("the quarter of the day in which a PERSON's SUM, his PLAN being OUT in that one, is greatest");
        String[] texts = {"house h 0 10 100;person x of h;person z;tie x z 3;work z 2;",
            "house h 9 10 50;house k 0 20 30;person x of h;person y of k;person z;wear 9;after 2;last;",
            "house h 4 1 100;person z;person x of h;tie z x 12;tie x z 5;take 2;"};
        for (String text : texts) {
            for (int passed = 0; passed < 5; passed++) {
                OwnedByGuests x = Due.of(text);
                Due.plan(x, 1, "00o0");
                Due.plan(x, 0, "0000");
                x.pass(passed);
                int got = x.when(0);
                int greatest = Integer.MIN_VALUE;
                int found = NONE;
                for (int i = 0; i < 4; i++) {
                    Due.plan(x, 0, "0000".substring(0, i) + "o" + "000".substring(i));
                    if (x.sum(0) > greatest) {
                        greatest = x.sum(0);
                        found = i;
                    }
                }
                due("when(0) behind " + passed + " quarters of " + text, got, found);
            }
        }
    }

    private static void whenOfAlikeOnes() {
        DUE.says("is greatest; the least of alike ones.");
        OwnedByGuests x = Due.of("house h 0 10 100;person x of h;person z;work x 12;");
        for (int passed = 0; passed < 4; passed++) {
            due("when(1) of a stranger", x.when(1), 0);
            due("when(0): in 2 and 3 he must be out", x.when(0), 2);
            x.pass(1);
        }
        Due.plan(x, 0, "0oo0");
        due("when(0): out by his plan in 1 and 2", x.when(0), 1);
        Due.plan(x, 0, "o0oo");
        due("when(0): out by his plan in 0", x.when(0), 0);
        due("planned(0, 1) stays", x.planned(0, 1), 0);
    }

    private static void whenAsked() {
        DUE.says("WHEN to be out; RANGE.");
        for (int person : new int[] {-1, 3, 5, Integer.MAX_VALUE, Integer.MIN_VALUE}) {
            TWINS.refused("when(" + person + ")", x -> x.when(person), RANGE);
        }
    }

    // ---- bounds

    private static void boundOfAfters() {
        DUE.says("BOUND: the least after (0 .. 28) in place of told with which SUM of BEST of a PERSON is at most a bound.");
        String[] texts = {"house h 4 10 100;person x of h;person z;", "last;house h 0 9 80;person x of h;person y;person z;",
            "house h 2 9 80;house k 0 4 100;person x of h;person y of k;tie x y 13;"};
        for (String text : texts) {
            for (int p = 0; p < 2; p++) {
                int[] sums = new int[29];
                for (int after = 0; after <= 28; after++) {
                    OwnedByGuests told = Due.of(text + "after " + after + ";");
                    Due.plan(told, 1 - p, "0000");
                    sums[after] = told.best(p, 4);
                }
                OwnedByGuests x = Due.of(text);
                Due.plan(x, 1 - p, "0000");
                for (int most = -5; most < 60; most++) {
                    int found = NONE;
                    for (int after = 28; after >= 0; after--) {
                        found = sums[after] <= most ? after : found;
                    }
                    due("bound(" + p + ", " + most + ") of " + text, x.bound(p, most), found);
                }
                due("told(3) stays", x.told(3), 12);
            }
        }
        // behind 24 quarters z stayed 23 and counts, in all the next four, by after 28 alone
        OwnedByGuests x = Due.of("house h 0 10 100;person x of h;person z;");
        Due.plan(x, 1, "0000");
        x.pass(24);
        due("bound(0, 0)", x.bound(0, 0), 28);
        x.pass(1);
        due("bound(0, 0) a quarter later", x.bound(0, 0), NONE);
    }

    private static void boundIsAtMost() {
        DUE.says("with which SUM of BEST of a PERSON is at most a bound.");
        OwnedByGuests x = Due.of("after 7;house h 0 10 100;person x of h;");
        due("bound(0, 40)", x.bound(0, 40), 0);
        due("bound(0, 39)", x.bound(0, 39), NONE);
        // the least that one can have: he is out
        x = Due.of("house h 0 0 0;person x;person y of h;tie x y 0;");
        due("bound(0, 0)", x.bound(0, 0), 0);
        due("bound(0, -1)", x.bound(0, -1), NONE);
    }

    private static void boundAsked() {
        DUE.says("BOUND of a PERSON (a bound -1000 .. 9999): the least after; NONE: none does; RANGE.");
        int[][] wrong = {{0, -1001}, {0, 10000}, {-1, 0}, {3, 0}, {5, 9999}};
        for (int[] row : wrong) {
            TWINS.refused("bound(" + row[0] + ", " + row[1] + ")", x -> x.bound(row[0], row[1]), RANGE);
        }
        for (int wild : WILD) {
            TWINS.refused("bound(" + wild + ", 0)", x -> x.bound(wild, 0), RANGE);
            if (wild != -1) {
                TWINS.refused("bound(0, " + wild + ")", x -> x.bound(0, wild), RANGE);
            }
        }
        TWINS.refused("bound(0, -1000)", x -> x.bound(0, -1000), NONE);
        OwnedByGuests x = Due.of("house h 0 10 100;person x of h;");
        due("bound(0, 9999)", x.bound(0, 9999), 0);
        due("bound(0, -1000)", x.bound(0, -1000), NONE);
    }

    // ---- laws

    private static final String VILLAGE = "house h 20 10 90;house k 9 7 40;person x of h;person y;person z of k;chairs 4;wear 5;"
        + "mend 3;tie x y 7;tie y z 14;";

    private static OwnedByGuests under(String law) {
        OwnedByGuests x = Due.of(VILLAGE + law);
        Due.plan(x, 0, "0o10");
        Due.plan(x, 1, "0110");
        Due.plan(x, 2, "1101");
        return x;
    }

    private static int allGain(OwnedByGuests x) {
        return x.who(0, 3) + x.who(1, 3) + x.who(2, 3);
    }

    private static String lawText(boolean isLast, int after) {
        return (isLast ? "last;" : "") + "after " + after + ";";
    }

    private static void lawsByHand() {
        DUE.says("LAWS: last or not, after 0 .. 28: in d days of a TRIAL by PLANS all GAIN together");
        for (String told : new String[] {"", "last;after 3;stroll 50;"}) {
            OwnedByGuests x = under(told);
            for (int after : new int[] {0, 1, 2, 3, 5, 27, 28}) {
                for (int d : new int[] {1, 2, 19, 20}) {
                    for (int k = 0; k < 2; k++) {
                        OwnedByGuests other = under(lawText(k == 1, after));
                        other.pass(4 * d);
                        String law = "law(" + (k == 1) + ", " + after + ", " + d + ", ";
                        due(law + "0)", x.law(k == 1, after, d, 0), allGain(other));
                        due(law + "1)", x.law(k == 1, after, d, 1), 90 + 40 - other.house(0, 2) - other.house(1, 2));
                    }
                }
            }
        }
    }

    /** What was had and lost ahead of the trial is none of it. */
    private static void lawsFromNow() {
        DUE.says("in d days of a TRIAL by PLANS all GAIN together, and how much STATE all HOUSES lost together");
        for (int passed : new int[] {1, 3, 6}) {
            for (int k = 0; k < 2; k++) {
                OwnedByGuests x = under(lawText(k == 1, 3));
                x.pass(passed);
                int gain = x.law(k == 1, 3, 2, 0);
                int lost = x.law(k == 1, 3, 2, 1);
                int gainBefore = allGain(x);
                int stateBefore = x.house(0, 2) + x.house(1, 2);
                x.pass(8);
                due("law(" + (k == 1) + ", 3, 2, 0) behind " + passed, gain, allGain(x) - gainBefore);
                due("law(" + (k == 1) + ", 3, 2, 1) behind " + passed, lost, stateBefore - x.house(0, 2) - x.house(1, 2));
            }
        }
    }

    private static void stateLost() {
        DUE.says("and how much STATE all HOUSES lost together (those that won: less than 0).");
        OwnedByGuests x = Due.of("wear 20;mend 20;house h 0 0 30;house k 0 0 30;person x of h;person z;");
        Due.plan(x, 1, "1111");
        // h is mended to 100, k worn to 0
        due("law(false, 28, 20, 1)", x.law(false, 28, 20, 1), 30 - 70);
        due("law(false, 28, 1, 1)", x.law(false, 28, 1, 1), 30 - 70);
        due("law(false, 1, 20, 1)", x.law(false, 1, 20, 1), 20 - 70);
        due("law(false, 0, 20, 1)", x.law(false, 0, 20, 1), -70);
        Due.plan(x, 0, "oooo");
        due("law(false, 28, 20, 1) with x out", x.law(false, 28, 20, 1), 30);
        due("law(false, 0, 20, 1) with x out", x.law(false, 0, 20, 1), 0);
        // from how things are now, not as told
        x.pass(1);
        due("house(1, 2)", x.house(1, 2), 10);
        due("law(false, 28, 20, 1) behind a quarter", x.law(false, 28, 20, 1), 10);
    }

    private static void lawAsked() {
        DUE.says("Of a law (last or not, after 0 .. 28) in d days (1 .. 20), what 0: all GAIN, 1: STATE lost; RANGE (-1000000).");
        int[][] wrong = {{-1, 1, 0}, {29, 1, 0}, {0, 0, 0}, {0, 21, 0}, {0, -1, 0}, {0, 1, -1}, {0, 1, 2}};
        for (int[] row : wrong) {
            for (int k = 0; k < 2; k++) {
                boolean isLast = k == 1;
                TWINS.refused("law(" + isLast + ", " + row[0] + ", " + row[1] + ", " + row[2] + ")",
                    x -> x.law(isLast, row[0], row[1], row[2]), NO_GAIN);
            }
        }
        for (int wild : WILD) {
            TWINS.refused("law(false, " + wild + ", 1, 0)", x -> x.law(false, wild, 1, 0), NO_GAIN);
            TWINS.refused("law(false, 1, " + wild + ", 0)", x -> x.law(false, 1, wild, 0), NO_GAIN);
            TWINS.refused("law(false, 1, 1, " + wild + ")", x -> x.law(false, 1, 1, wild), NO_GAIN);
        }
    }

    private static void bestLawByHand() {
        DUE.says("BEST LAW: the greatest GAIN; then without last; then the least after.");
        for (int passed = 0; passed < 3; passed++) {
            for (int d : new int[] {1, 3, 20}) {
                OwnedByGuests x = under("");
                x.pass(passed);
                int greatest = Integer.MIN_VALUE;
                int found = NONE;
                for (int k = 0; k < 2; k++) {
                    for (int after = 0; after <= 28; after++) {
                        int gain = x.law(k == 1, after, d, 0);
                        if (gain > greatest) {
                            greatest = gain;
                            found = 100 * k + after;
                        }
                    }
                }
                due("bestLaw(" + d + ") behind " + passed + " quarters", x.bestLaw(d), found);
            }
        }
    }

    private static void bestLawOfAlikeOnes() {
        DUE.says("then without last; then the least after.");
        due("bestLaw(1) of nobody", new OwnedByGuests().bestLaw(1), 0);
        // the only guest has the house as long as he counts: after d days he stayed 4 d less 1
        OwnedByGuests x = Due.of("wear 0;house h 0 10 100;person z;");
        Due.plan(x, 0, "0000");
        int[][] want = {{1, 4}, {2, 8}, {6, 24}, {7, 28}, {8, 28}, {20, 28}};
        for (int[] row : want) {
            due("bestLaw(" + row[0] + ")", x.bestLaw(row[0]), row[1]);
        }
        // only by last does z, who lets w in, have the house: 100 more
        x = Due.of("chairs 4;house h 0 0 100;person x of h;person y;person z;person w;tie w y 20;");
        x.lets(0, 2);
        x.lets(1, 4);
        Due.plan(x, 1, "0000");
        Due.plan(x, 2, "0000");
        Due.plan(x, 3, "o000");
        DUE.says("after, and 100 more with last");
        due("bestLaw(1) with last", x.bestLaw(1), 102);
        due("told(8) stays", x.told(8), 0);
        due("told(3) stays", x.told(3), 12);
    }

    private static void bestLawAsked() {
        DUE.says("BEST LAW in d days (1 .. 20): after, and 100 more with last; RANGE.");
        for (int d : new int[] {0, 21, -1, Integer.MAX_VALUE, Integer.MIN_VALUE}) {
            TWINS.refused("bestLaw(" + d + ")", x -> x.bestLaw(d), RANGE);
        }
    }
}
