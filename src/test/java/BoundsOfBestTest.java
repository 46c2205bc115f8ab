/** Terms III up to SETTLE and promises 18 to 22: a test for each sentence that names a boundary. */
public final class BoundsOfBestTest {
    private static final Due DUE = new Due();
    private static final Twins TWINS = new Twins(DUE);
    private static final int NONE = OwnedByGuests.NONE;
    private static final int RANGE = OwnedByGuests.RANGE;
    private static final int NO_GAIN = -1000000;
    private static final String[] STORIES = {
        "house h 3 10 97;person o of h;person z;tie o z 14;tie z o 9;",
        "last;chairs 1;after 1;house h 0 9 60;person o of h;person y;person z;tie y z 4;tie z y 13;",
        "house h 1 5 100;house k 9 4 90;person o of h;person z;work z 5;wear 7;",
        "house h 0 0 0;person a;person b;tie a b 20;tie b a 0;",
        "after 2;house h 5 20 99;house k 0 3 50;person x of k;person y of h;tie x y 12;tie y x 8;work x 8;"};

    public static void main(String[] args) {
        trialsChangeNothing();
        withoutStrolling();
        nextFourQuarters();
        sumAsked();
        greatestSum();
        leastRow();
        bestAsked();
        restsByHand();
        noRests();
        risingRows();
        workIsWork();
        nobodyHasMore();
        restAsked();
        settlesByTurns();
        atMostNine();
        onlyWhatIsMore();
        settledPlans();
        DUE.close();
    }

    private static void due(String call, int got, int want) {
        DUE.due(call, got, want);
    }

    private static String row(int number, int houses) {
        StringBuilder row = new StringBuilder();
        for (int i = 0; i < 4; i++) {
            int place = number % (houses + 1);
            row.insert(0, place == houses ? "o" : String.valueOf(place));
            number /= houses + 1;
        }
        return row.toString();
    }

    private static int placeOf(char sign) {
        return sign == 'o' ? NONE : sign - '0';
    }

    private static void trialsChangeNothing() {
        DUE.says("A TRIAL goes on from how things are now, without strolling.");
        for (int p = 0; p < 3; p++) {
            int person = p;
            TWINS.asks("sum(" + p + ")", x -> x.sum(person));
            TWINS.asks("rest(0, " + p + ")", x -> x.rest(0, person));
            TWINS.asks("when(" + p + ")", x -> x.when(person));
            TWINS.asks("bound(" + p + ", -1000)", x -> x.bound(person, -1000));
            TWINS.asks("whom(" + p + ")", x -> x.whom(person));
            TWINS.asks("show(" + p + ")", x -> x.show(person));
            for (int what = 0; what < 5; what++) {
                int asked = what;
                TWINS.asks("best(" + p + ", " + what + ")", x -> x.best(person, asked));
            }
        }
        TWINS.asks("rests()", OwnedByGuests::rests);
        TWINS.asks("longer(1, 60, 1)", x -> x.longer(1, 60, 1));
        TWINS.asks("guard(0, 2)", x -> x.guard(0, 2));
        TWINS.asks("guard(1, 0)", x -> x.guard(1, 0));
        TWINS.asks("rings(0)", x -> x.rings(0));
        TWINS.asks("rings(1)", x -> x.rings(1));
        TWINS.asks("law(true, 1, 20, 0)", x -> x.law(true, 1, 20, 0));
        TWINS.asks("law(false, 28, 20, 1)", x -> x.law(false, 28, 20, 1));
        TWINS.asks("bestLaw(20)", x -> x.bestLaw(20));
        TWINS.asks("edge(0, 1)", x -> x.edge(0, 1));
        TWINS.asks("edge(1, 0)", x -> x.edge(1, 0));
    }

    private static void withoutStrolling() {
        DUE.says("A TRIAL goes on from how things are now, without strolling.");
        OwnedByGuests x = Due.of("stroll 100;house h 0 10 100;person o of h;");
        due("sum(0)", x.sum(0), 40);
        due("best(0, 4)", x.best(0, 4), 40);
        due("law(false, 0, 20, 0)", x.law(false, 0, 20, 0), 800);
        x.pass(2);
        // by the seed 1 he strolled home and then out; now he comes home and stays
        due("who(0, 0)", x.who(0, 0), NONE);
        due("sum(0)", x.sum(0), 40);
    }

    private static void nextFourQuarters() {
        DUE.says("A DAY's SUM of a PERSON: his GAIN in the next four QUARTERS.");
        for (String text : STORIES) {
            OwnedByGuests x = Due.of(text);
            int people = x.told(1);
            Due.plan(x, 0, "0o00");
            Due.plan(x, people - 1, "00o0");
            for (int passed = 0; passed < 6; passed++) {
                int[] before = new int[people];
                int[] sums = new int[people];
                for (int p = 0; p < people; p++) {
                    before[p] = x.who(p, 3);
                    sums[p] = x.sum(p);
                }
                x.keep(0);
                x.pass(4);
                for (int p = 0; p < people; p++) {
                    due("sum(" + p + ") from quarter " + passed, sums[p], x.who(p, 3) - before[p]);
                }
                x.take(0);
                x.pass(1);
            }
        }
    }

    private static void sumAsked() {
        DUE.says("SUM of a PERSON by PLANS as they are; RANGE (-1000000).");
        for (int person : new int[] {-1, 3, 4, 5, Integer.MAX_VALUE, Integer.MIN_VALUE}) {
            TWINS.refused("sum(" + person + ")", x -> x.sum(person), NO_GAIN);
        }
        OwnedByGuests x = Due.of("house h 0 10 100;person o of h;person b;person c;person d;person e;tie e o 0;");
        due("sum(4)", x.sum(4), 0);
        Due.plan(x, 4, "0oo0");
        // he has it himself: 10 less 10, and once more when it was mended between
        due("sum(4) by another plan", x.sum(4), 0 + 0);
        Due.plan(x, 0, "oooo");
        due("sum(4) by another's plan", x.sum(4), 10 + 9);
        due("sum(5)", x.sum(5), NO_GAIN);
    }

    /** Every plan is tried by plan() and sum(). */
    private static void greatestSum() {
        DUE.says("BEST of a PERSON: the PLAN with the greatest SUM, the others' being as they are; of alike ones the least row");
        for (String text : STORIES) {
            for (int passed = 0; passed < 5; passed++) {
                for (int p = 0; p < 2; p++) {
                    greatestSum(text, passed, p);
                }
            }
        }
    }

    private static void greatestSum(String text, int passed, int p) {
        OwnedByGuests x = Due.of(text);
        Due.plan(x, 1 - p, "0o00");
        Due.plan(x, p, "00o0");
        x.pass(passed);
        int houses = x.told(0);
        int[] got = new int[5];
        for (int what = 0; what < 5; what++) {
            got[what] = x.best(p, what);
        }
        int greatest = Integer.MIN_VALUE;
        String least = "";
        int rows = houses == 1 ? 16 : 81;
        for (int i = 0; i < rows; i++) {
            String row = row(i, houses);
            Due.plan(x, p, row);
            int sum = x.sum(p);
            if (sum > greatest) {
                greatest = sum;
                least = row;
            }
        }
        String of = " behind " + passed + " quarters of " + text;
        due("best(" + p + ", 4)" + of, got[4], greatest);
        for (int i = 0; i < 4; i++) {
            due("best(" + p + ", " + i + ")" + of, got[i], placeOf(least.charAt(i)));
        }
    }

    private static void best(String text, int passed, int... want) {
        OwnedByGuests x = Due.of(text);
        x.pass(passed);
        for (int what = 0; what < 5; what++) {
            due("best(0, " + what + ") behind " + passed + " quarters of " + text, x.best(0, what), want[what]);
        }
    }

    private static void leastRow() {
        DUE.says("of alike ones the least row (places of quarters 0 .. 3 of a day, HOUSES by numbers, then OUT)");
        best("person z;", 0, -1, -1, -1, -1, 0);
        best("house a 0 0 0;person z;", 0, 0, 0, 0, 0, 0);
        best("house a 0 0 0;house b 0 0 0;person z of b;", 0, 0, 0, 0, 0, 0);
        // out is the last place, even of one who must work all day
        best("house a 0 0 0;person z;work z 15;", 0, 0, 0, 0, 0, 0);
        // one unit of b alone: in the last quarter of the day, whichever quarter comes next
        for (int passed = 0; passed < 5; passed++) {
            best("house a 0 0 0;house b 1 0 0;person z;", passed, 0, 0, 0, 1, 1);
        }
        // only out is without loss: he is with one whom he dislikes wherever he goes
        best("house a 0 0 0;person z;person y of a;tie z y 9;", 0, -1, -1, -1, -1, 0);
    }

    private static void bestAsked() {
        DUE.says("what 0 .. 3: the place in that quarter of the day (NONE: OUT), 4: its SUM; RANGE (-1000000).");
        int[][] wrong = {{0, -1}, {0, 5}, {-1, 0}, {3, 4}, {5, 0}, {0, Integer.MAX_VALUE}, {0, Integer.MIN_VALUE},
            {Integer.MAX_VALUE, 0}, {Integer.MIN_VALUE, 4}};
        for (int[] row : wrong) {
            TWINS.refused("best(" + row[0] + ", " + row[1] + ")", x -> x.best(row[0], row[1]), NO_GAIN);
        }
    }

    // ---- rests

    private static void restsByHand() {
        DUE.says("by which nobody would have more GAIN in it by another wish of his own alone.");
        for (String text : STORIES) {
            for (int passed = 0; passed < 3; passed++) {
                restsByHand(text, passed);
            }
        }
    }

    /** Every row of wishes is tried by plans and a quarter that passes. */
    private static void restsByHand(String text, int passed) {
        OwnedByGuests x = Due.of(text);
        int people = x.told(1);
        int places = x.told(0) + 1;
        x.pass(passed);
        x.keep(0);
        int rows = 1;
        for (int p = 0; p < people; p++) {
            rows *= places;
        }
        int[][] gains = new int[rows][people];
        for (int i = 0; i < rows; i++) {
            for (int p = 0; p < people; p++) {
                int wish = wishIn(i, p, people, places);
                String place = wish == places - 1 ? "o" : String.valueOf(wish);
                Due.plan(x, p, place.repeat(4));
            }
            x.pass(1);
            for (int p = 0; p < people; p++) {
                gains[i][p] = x.who(p, 2);
            }
            x.take(0);
        }
        int found = 0;
        for (int i = 0; i < rows; i++) {
            if (isAllowed(x, i, people, places) && isRest(gains, i, people, places)) {
                for (int p = 0; p < people; p++) {
                    int wish = wishIn(i, p, people, places);
                    due("rest(" + found + ", " + p + ") of " + text, x.rest(found, p), wish == places - 1 ? NONE : wish);
                }
                found++;
            }
        }
        due("rests() of " + text, x.rests(), found);
        due("rest(" + found + ", 0) of " + text, x.rest(found, 0), RANGE);
    }

    private static int wishIn(int row, int p, int people, int places) {
        for (int k = people - 1; k > p; k--) {
            row /= places;
        }
        return row % places;
    }

    /** Who must work then wishes out alone. */
    private static boolean isAllowed(OwnedByGuests x, int row, int people, int places) {
        for (int p = 0; p < people; p++) {
            boolean works = (x.told(60 + p) >> x.count(1) % 4) % 2 == 1;
            if (works && wishIn(row, p, people, places) != places - 1) {
                return false;
            }
        }
        return true;
    }

    private static boolean isRest(int[][] gains, int row, int people, int places) {
        int stride = gains.length;
        for (int p = 0; p < people; p++) {
            stride /= places;
            int first = row - wishIn(row, p, people, places) * stride;
            for (int k = 0; k < places; k++) {
                if (gains[first + k * stride][p] > gains[row][p]) {
                    return false;
                }
            }
        }
        return true;
    }

    private static void noRests() {
        DUE.says("How many RESTS there are.");
        // a has most where b is; b has something in each house, but not beside a
        OwnedByGuests x = Due.of("house h 0 5 100;house k 0 5 100;person a;person b;tie a b 20;tie b a 0;");
        due("rests() of one who flees", x.rests(), 0);
        for (int p = 0; p < 2; p++) {
            due("rest(0, " + p + ") of one who flees", x.rest(0, p), RANGE);
        }
        // one chair each: a has either house, b the other
        x = Due.of("house h 0 10 100;house k 0 10 100;person a;person b;tie a b 0;tie b a 20;last;chairs 1;");
        due("rests() of one chair each", x.rests(), 2);
        due("rest(0, 1)", x.rest(0, 1), 1);
        due("rest(1, 1)", x.rest(1, 1), 0);
        due("rest(2, 1)", x.rest(2, 1), RANGE);
        x = Due.of("house h 0 0 0;house k 0 0 0;person a of h;person b of k;tie a b 0;tie b a 20;work a 1;work b 1;");
        due("rests() when all must work", x.rests(), 1);
        due("rest(0, 0)", x.rest(0, 0), NONE);
        due("rest(0, 1)", x.rest(0, 1), NONE);
        due("rest(1, 0)", x.rest(1, 0), RANGE);
        DUE.says("A PERSON is in a HOUSE or OUT");
        due("rests() of nobody", Due.of("house h 1 1 1;").rests(), 1);
    }

    private static void risingRows() {
        DUE.says("They are numbered by rising rows (PERSON 0 first; HOUSES by numbers, then OUT;");
        OwnedByGuests x = Due.of("house h 0 0 0;house k 0 0 0;person a;person b;");
        due("rests() when all is alike", x.rests(), 9);
        for (int i = 0; i < 9; i++) {
            due("rest(" + i + ", 0)", x.rest(i, 0), i / 3 == 2 ? NONE : i / 3);
            due("rest(" + i + ", 1)", x.rest(i, 1), i % 3 == 2 ? NONE : i % 3);
        }
        x = Due.of("house a 0 0 0;house b 0 0 0;house c 0 0 0;house d 0 0 0;house e 0 0 0;"
            + "person a;person b;person c;person d;person e;");
        due("rests() of the most rows", x.rests(), 7776);
        int[] last = {-1, -1, -1, -1, 4};
        for (int p = 0; p < 5; p++) {
            due("rest(0, " + p + ")", x.rest(0, p), 0);
            due("rest(7774, " + p + ")", x.rest(7774, p), last[p]);
            due("rest(7775, " + p + ")", x.rest(7775, p), NONE);
            due("rest(7776, " + p + ")", x.rest(7776, p), RANGE);
        }
    }

    private static void workIsWork() {
        DUE.says("who must work then: OUT alone).");
        for (int quarter = 0; quarter < 4; quarter++) {
            OwnedByGuests x = Due.of("house h 0 0 0;house k 0 0 0;person a;person b;work b " + (1 << quarter) + ";");
            for (int passed = 0; passed < 8; passed++) {
                boolean works = passed % 4 == quarter;
                due("rests() with " + passed + " passed", x.rests(), works ? 3 : 9);
                due("rest(0, 1) with " + passed + " passed", x.rest(0, 1), works ? NONE : 0);
                due("rest(2, 0) with " + passed + " passed", x.rest(2, 0), works ? NONE : 0);
                x.pass(1);
            }
        }
    }

    private static void nobodyHasMore() {
        DUE.says("by which nobody would have more GAIN in it by another wish of his own alone.");
        // h and k are alike: either is a rest, out isn't; with one point more h alone is
        due("rests() of alike houses", Due.of("house h 0 10 100;house k 0 10 100;person z;").rests(), 2);
        OwnedByGuests x = Due.of("house h 0 11 100;house k 0 10 100;person z;");
        due("rests() of a better one", x.rests(), 1);
        due("rest(0, 0)", x.rest(0, 0), 0);
        // a tie of 0 and a house that gives nothing: all alike
        due("rests() when nothing is to be had", Due.of("house h 0 0 0;person z;").rests(), 2);
        due("rests() when one unit is", Due.of("house h 1 0 0;person z;").rests(), 1);
        due("rests() when the unit isn't taken", Due.of("take 0;house h 1 0 0;person z;").rests(), 2);
    }

    private static void restAsked() {
        DUE.says("RANGE: there are not so many, i below 0, no such PERSON.");
        int rests = Twins.story().rests();
        int[][] wrong = {{-1, 0}, {rests, 0}, {0, -1}, {0, 3}, {-1, -1}, {rests + 1, 2}, {Integer.MAX_VALUE, 0},
            {Integer.MIN_VALUE, 0}, {0, Integer.MAX_VALUE}, {0, Integer.MIN_VALUE}};
        for (int[] row : wrong) {
            TWINS.refused("rest(" + row[0] + ", " + row[1] + ")", x -> x.rest(row[0], row[1]), RANGE);
        }
        if (rests > 0) {
            TWINS.asks("rest(" + (rests - 1) + ", 2)", x -> x.rest(rests - 1, 2));
        }
    }

    // ---- turns that settle or don't

    /** Rounds by sum(), best() and plan(), without a bound but the calls that an object has. */
    private static int roundsByHand(OwnedByGuests x, int most) {
        for (int round = 1; round <= most; round++) {
            boolean isSettled = true;
            for (int p = 0; p < x.told(1); p++) {
                if (x.best(p, 4) > x.sum(p)) {
                    StringBuilder row = new StringBuilder();
                    for (int i = 0; i < 4; i++) {
                        int place = x.best(p, i);
                        row.append(place == NONE ? "o" : String.valueOf(place));
                    }
                    Due.plan(x, p, row.toString());
                    isSettled = false;
                }
            }
            if (isSettled) {
                return round;
            }
        }
        return NONE;
    }

    private static void settles(String text, int rounds) {
        OwnedByGuests byHand = Due.of(text);
        due("rounds by hand of " + text, roundsByHand(byHand, 9), rounds);
        OwnedByGuests x = Due.of(text);
        due("settle() of " + text, x.settle(), rounds);
        for (int p = 0; p < x.told(1); p++) {
            for (int i = 0; i < 4; i++) {
                due("planned(" + p + ", " + i + ") of " + text, x.planned(p, i), byHand.planned(p, i));
            }
        }
        due("count(1) of " + text, x.count(1), 0);
    }

    private static void settlesByTurns() {
        DUE.says("It is settled by a round in which none got another.");
        settles("", 1);
        settles("house h 0 0 0;person z;", 1);
        settles("house h 0 1 100;person z;", 2);
        settles("chairs 1;house h 0 10 100;person x;person y;", 2);
        settles("house h 1 14 40;person a;person b;person c;tie b a 9;tie c a 7;last;", 8);
        OwnedByGuests x = Due.of("house h 0 1 100;person z;");
        due("settle()", x.settle(), 2);
        due("settle() of what is settled", x.settle(), 1);
    }

    private static void atMostNine() {
        DUE.says("SETTLE: round by round, at most nine");
        String nine = "house h 0 12 100;house i 0 16 100;person a;person b;person c of h;last;";
        String ten = "house h 0 8 60;person a;person b;person c;tie a b 3;tie c a 0;last;";
        String eleven = "house h 0 13 100;house i 1 17 100;person a;person b;person c of h;last;";
        due("rounds of nine, by hand", roundsByHand(Due.of(nine), 20), 9);
        due("rounds of ten, by hand", roundsByHand(Due.of(ten), 20), 10);
        due("rounds of eleven, by hand", roundsByHand(Due.of(eleven), 20), 11);
        settles(nine, 9);
        DUE.says("NONE: it wasn't. PLANS stay as they came to be.");
        settles(ten, NONE);
        settles(eleven, NONE);
        OwnedByGuests x = Due.of(ten);
        due("settle()", x.settle(), NONE);
        due("settle() goes on: the tenth round is quiet", x.settle(), 1);
        x = Due.of(eleven);
        due("settle()", x.settle(), NONE);
        due("settle() goes on: the eleventh round is quiet", x.settle(), 2);
    }

    private static void onlyWhatIsMore() {
        DUE.says("each PERSON by numbers gets BEST as his PLAN, if its SUM is more than that of the one he has.");
        // k is only as good as h, where he plans to be: he keeps his plan
        OwnedByGuests x = Due.of("wear 0;house h 0 10 100;house k 0 10 100;person z;");
        Due.plan(x, 0, "1111");
        due("settle()", x.settle(), 1);
        due("planned(0, 0) stays", x.planned(0, 0), 1);
        // one point more and he goes
        x = Due.of("wear 0;house h 0 11 100;house k 0 10 100;person z;");
        Due.plan(x, 0, "1111");
        due("settle()", x.settle(), 2);
        due("planned(0, 0)", x.planned(0, 0), 0);
        // by numbers: a comes first to the only chair, and b has then nothing to gain by it
        x = Due.of("chairs 1;wear 0;house h 0 10 100;person a;person b;");
        due("settle()", x.settle(), 2);
        due("planned(0, 0)", x.planned(0, 0), 0);
        due("planned(1, 0)", x.planned(1, 0), NONE);
    }

    private static void settledPlans() {
        DUE.says("in how many rounds it was settled (the last one, too); NONE: it wasn't. PLANS stay as they came to be.");
        // nothing but plans changes
        OwnedByGuests x = Twins.story();
        OwnedByGuests other = Twins.story();
        other.end(0);
        due("rounds by hand", roundsByHand(other, 9), x.settle());
        for (int p = 0; p < 3; p++) {
            for (int i = 0; i < 4; i++) {
                due("planned(" + p + ", " + i + ")", x.planned(p, i), other.planned(p, i));
                due("who(" + p + ", " + i + ")", x.who(p, i), other.who(p, i));
            }
            int lets = other.lets(p, 0);
            other.lets(p, lets);
            due("lets(" + p + ")", x.lets(p, lets), lets);
        }
        for (int i = 0; i < 8; i++) {
            due("house(" + i / 4 + ", " + i % 4 + ")", x.house(i / 4, i % 4), other.house(i / 4, i % 4));
        }
        due("count(1)", x.count(1), 7);
        due("count(2): the tape stays", x.count(2), 4);
        due("turned(0, 1)", x.turned(0, 1), 1);
        due("pass(5)", x.pass(5), other.pass(5));
        for (int i = 0; i < 12; i++) {
            due("who(" + i / 4 + ", " + i % 4 + ") by the same chance", x.who(i / 4, i % 4), other.who(i / 4, i % 4));
        }
        due("take(0)", x.take(0), 5);
        due("planned(1, 1) as the slot keeps it", x.planned(1, 1), 1);
    }
}
