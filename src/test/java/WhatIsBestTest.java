/** Promises 18 to 22: sums, the best plan, rests, turns that settle or don't. */
public final class WhatIsBestTest {
    private static final Due DUE = new Due();

    public static void main(String[] args) {
        sums();
        noStrollInTrials();
        bestPlans();
        leastRowInTheMiddleOfADay();
        rests();
        restsOfWorkers();
        restsFromNow();
        restsByTheGreatestGains();
        restsByTheLeastGains();
        settles();
        neverSettles();
        DUE.close();
    }

    private static void due(String call, int got, int want) {
        DUE.due(call, got, want);
    }

    private static void sums() {
        OwnedByGuests x = Due.of("house h 2 10 100;person o of h;person z;");
        due("sum(0) at home", x.sum(0), 11 + 11 + 10 + 10);
        due("sum(1) out", x.sum(1), 0);
        Due.plan(x, 1, "o00o");
        due("sum(1): store and state by quarters", x.sum(1), 11 + 9);
        due("sum(0) beside it", x.sum(0), 11 + 9);
        x.pass(1);
        due("sum(0) of the next four", x.sum(0), 0 + 0 + 9 + 9);
        due("count(1) stays", x.count(1), 1);
        due("house(0, 1) stays", x.house(0, 1), 1);
        due("who(0, 3) stays", x.who(0, 3), 11);
        due("best(0, 4) beside it", x.best(0, 4), 0 + 0 + 9 + 9);
        due("sum(2)", x.sum(2), -1000000);
        due("sum(-1)", x.sum(-1), -1000000);
    }

    private static void noStrollInTrials() {
        OwnedByGuests x = Due.of("house h 0 10 100;person o of h;stroll 100;");
        due("sum(0) without strolling", x.sum(0), 40);
        due("best(0, 4) without strolling", x.best(0, 4), 40);
        due("longer(0, 1, 1)", x.longer(0, 1, 1), 100);
        x.pass(1);
        due("no chance was drawn by trials", x.who(0, 0), 0);
        x.pass(1);
        due("no chance was drawn by trials", x.who(0, 0), OwnedByGuests.NONE);
        x = Due.of("chairs 4;house h 0 10 100;person a;person b;last;");
        Due.plan(x, 0, "0000");
        Due.plan(x, 1, "0000");
        due("sum(0) by last", x.sum(0), 0);
        due("sum(1) by last", x.sum(1), 37);
    }

    private static void bestPlans() {
        OwnedByGuests x = Due.of("house h 0 10 100;house k 0 20 100;person o of h;work o 4;");
        // in k worn by 2: 20, 19, out by work, 19
        best(x, 0, 1, 1, 0, 1, 58);
        x = Due.of("person z;");
        best(x, 0, -1, -1, -1, -1, 0);
        x = Due.of("house h 0 0 0;house k 0 0 0;person z;");
        best(x, 0, 0, 0, 0, 0, 0);
        x = Due.of("house h 0 0 0;person o of h;person z;tie z o 9;");
        best(x, 1, -1, -1, -1, -1, 0);
        Due.plan(x, 0, "0oo0");
        best(x, 1, -1, 0, 0, -1, 0);
        due("planned(1, 1) stays", x.planned(1, 1), OwnedByGuests.NONE);
        due("best(1, 5)", x.best(1, 5), -1000000);
        due("best(1, -1)", x.best(1, -1), -1000000);
        due("best(2, 0)", x.best(2, 0), -1000000);
        due("best(-1, 4)", x.best(-1, 4), -1000000);
    }

    private static void best(OwnedByGuests x, int person, int... want) {
        for (int what = 0; what < want.length; what++) {
            due("best(" + person + ", " + what + ")", x.best(person, what), want[what]);
        }
    }

    /** One unit is to be had in k: rows are by quarters of the day, whichever comes next. */
    private static void leastRowInTheMiddleOfADay() {
        OwnedByGuests x = Due.of("house h 0 0 0;house k 1 0 0;person z;");
        for (int i = 0; i < 4; i++) {
            best(x, 0, 0, 0, 0, 1, 1);
            x.pass(1);
        }
    }

    private static void rests() {
        OwnedByGuests x = Due.of("chairs 1;house h 0 10 100;person x;person y;");
        // x comes first by his number: y's wish is all the same, but x must have his
        due("rests()", x.rests(), 2);
        int[][] want = {{0, 0}, {0, -1}};
        for (int i = 0; i < 2; i++) {
            for (int p = 0; p < 2; p++) {
                due("rest(" + i + ", " + p + ")", x.rest(i, p), want[i][p]);
            }
        }
        due("rest(2, 0)", x.rest(2, 0), OwnedByGuests.RANGE);
        due("rest(-1, 0)", x.rest(-1, 0), OwnedByGuests.RANGE);
        due("rest(0, 2)", x.rest(0, 2), OwnedByGuests.RANGE);
        due("rest(0, -1)", x.rest(0, -1), OwnedByGuests.RANGE);
        due("rest(greatest, 0)", x.rest(Integer.MAX_VALUE, 0), OwnedByGuests.RANGE);
        due("rest(least, 0)", x.rest(Integer.MIN_VALUE, 0), OwnedByGuests.RANGE);
        x = Due.of("person a;person b;");
        due("rests() without houses", x.rests(), 1);
        due("rest(0, 1) without houses", x.rest(0, 1), OwnedByGuests.NONE);
        x = Due.of("house a 0 0 0;house b 0 0 0;house c 0 0 0;house d 0 0 0;house e 0 0 0;"
            + "person a;person b;person c;person d;person e;");
        due("rests() when nothing is to be had", x.rests(), 7776);
        due("rest(7775, 0)", x.rest(7775, 0), OwnedByGuests.NONE);
        due("rest(7774, 4)", x.rest(7774, 4), 4);
        due("rest(7774, 3)", x.rest(7774, 3), OwnedByGuests.NONE);
        due("rest(1296, 0)", x.rest(1296, 0), 1);
        due("rest(1295, 0)", x.rest(1295, 0), 0);
        due("rest(7776, 0)", x.rest(7776, 0), OwnedByGuests.RANGE);
        // one follows whom he likes, who flees him
        x = Due.of("house h 0 0 0;house k 0 0 0;person x;person y;tie x y 20;tie y x 0;");
        due("rests() of one who flees", x.rests(), 3);
        due("rest(0, 0)", x.rest(0, 0), 0);
        due("rest(0, 1)", x.rest(0, 1), OwnedByGuests.NONE);
        due("rest(2, 0)", x.rest(2, 0), OwnedByGuests.NONE);
        due("rest(2, 1)", x.rest(2, 1), OwnedByGuests.NONE);
    }

    private static void restsOfWorkers() {
        OwnedByGuests x = Due.of("house h 0 10 100;person x of h;person z;work z 1;");
        due("rests() with work", x.rests(), 1);
        due("rest(0, 0)", x.rest(0, 0), 0);
        due("rest(0, 1) must work", x.rest(0, 1), OwnedByGuests.NONE);
        x.pass(1);
        // z comes and has it, wherever x is
        due("rests() without work", x.rests(), 2);
        due("rest(0, 1) needn't", x.rest(0, 1), 0);
        due("rest(1, 0)", x.rest(1, 0), OwnedByGuests.NONE);
    }

    private static String fiveWithTies(int tie, int tieOfLast) {
        StringBuilder text = new StringBuilder("chairs 4;take 9;house h 99 20 100;");
        String names = "abcde";
        for (int p = 0; p < 5; p++) {
            text.append("person ").append(names.charAt(p)).append(p == 0 ? " of h;" : ";");
        }
        for (int p = 0; p < 5; p++) {
            for (int q = 0; q < 5; q++) {
                if (p != q) {
                    text.append("tie ").append(names.charAt(p)).append(' ').append(names.charAt(q));
                    text.append(' ').append(p < 4 ? tie : tieOfLast).append(';');
                }
            }
        }
        return text.toString();
    }

    /** All like all: who is out would come, so that all are in; who has it has 20, 9 and four times 10. */
    private static void restsByTheGreatestGains() {
        OwnedByGuests x = Due.of(fiveWithTies(20, 20));
        due("rests() of all who like all", x.rests(), 1);
        for (int p = 0; p < 5; p++) {
            due("rest(0, " + p + ")", x.rest(0, p), 0);
            Due.plan(x, p, "0000");
        }
        x.pass(1);
        due("who(1, 2): the most there is", x.who(1, 2), 69);
        due("who(4, 2)", x.who(4, 2), 40);
    }

    /**
     * None likes any: who hasn't the house flees it, and of guests who come together the least number has it; the
     * one whose it is can't have it beside a guest.
     */
    private static void restsByTheLeastGains() {
        OwnedByGuests x = Due.of(fiveWithTies(0, 0));
        due("rests() of all who like none", x.rests(), 1);
        for (int p = 0; p < 5; p++) {
            due("rest(0, " + p + ")", x.rest(0, p), p == 1 ? 0 : OwnedByGuests.NONE);
            Due.plan(x, p, "0000");
        }
        x.pass(1);
        due("who(1, 2)", x.who(1, 2), 29 - 40);
        due("who(4, 2): the least there is", x.who(4, 2), -40);
        // he alone flees, and all others are better off wherever they are together
        x = Due.of(fiveWithTies(20, 0));
        due("rests() of one who likes none", x.rests(), 1);
        for (int p = 0; p < 5; p++) {
            due("rest(0, " + p + ")", x.rest(0, p), p < 4 ? 0 : OwnedByGuests.NONE);
        }
    }

    /** Who stayed longer has it: rests depend on how things are. */
    private static void restsFromNow() {
        OwnedByGuests x = Due.of("chairs 1;house h 0 10 100;person x;person y;");
        Due.plan(x, 1, "0000");
        x.pass(1);
        due("rests() with y in it", x.rests(), 2);
        due("rest(0, 0)", x.rest(0, 0), 0);
        due("rest(0, 1)", x.rest(0, 1), 0);
        due("rest(1, 0)", x.rest(1, 0), OwnedByGuests.NONE);
        due("rest(1, 1)", x.rest(1, 1), 0);
        Due.plan(x, 1, "oooo");
        x.pass(1);
        due("rest(1, 0) with y out of it", x.rest(1, 0), 0);
        due("rest(1, 1) with y out of it", x.rest(1, 1), OwnedByGuests.NONE);
    }

    private static void settles() {
        OwnedByGuests x = Due.of("chairs 1;house h 0 10 100;person x;person y;");
        due("settle()", x.settle(), 2);
        for (int i = 0; i < 4; i++) {
            due("planned(0, " + i + ")", x.planned(0, i), 0);
            due("planned(1, " + i + ") is as it was", x.planned(1, i), OwnedByGuests.NONE);
        }
        due("settle() again", x.settle(), 1);
        due("count(1)", x.count(1), 0);
        x = new OwnedByGuests();
        due("settle() of nobody", x.settle(), 1);
        x = Due.of("house h 0 0 0;person x;");
        due("settle() gives no plan that is only as good", x.settle(), 1);
        due("planned(0, 0)", x.planned(0, 0), OwnedByGuests.NONE);
    }

    /** x follows y, who flees him, in a village of two houses. */
    private static void neverSettles() {
        OwnedByGuests x = Due.of("house h 0 0 0;house k 0 0 0;person x;person y;tie x y 20;tie y x 0;"
            + "person z;tie y z 20;tie z x 20;tie z y 0;tie x z 0;");
        Due.plan(x, 0, "0000");
        Due.plan(x, 1, "0000");
        Due.plan(x, 2, "1111");
        due("settle()", x.settle(), OwnedByGuests.NONE);
        int[] plans = new int[12];
        for (int i = 0; i < 12; i++) {
            plans[i] = x.planned(i / 4, i % 4);
        }
        PlainVillage plain = new PlainVillage();
        plain.tape.append("house h 0 0 0;house k 0 0 0;person x;person y;tie x y 20;tie y x 0;"
            + "person z;tie y z 20;tie z x 20;tie z y 0;tie x z 0;");
        plain.village();
        int[][] rows = {{0, 0, 0, 0}, {0, 0, 0, 0}, {1, 1, 1, 1}};
        for (int p = 0; p < 3; p++) {
            plain.now.plans[p] = rows[p];
        }
        due("settle() of the plain one", plain.settle(), OwnedByGuests.NONE);
        for (int i = 0; i < 12; i++) {
            due("plans stay as they came to be [" + i + "]", plans[i], plain.now.plans[i / 4][i % 4]);
        }
    }
}
