/** A village with as many houses and people as there may be: every call, up to the last house and the last person. */
public final class BoundsOfFullVillageTest {
    private static final Due DUE = new Due();
    private static final int NONE = OwnedByGuests.NONE;
    private static final int RANGE = OwnedByGuests.RANGE;
    /** Person k has house k; each house gives 10 a quarter. */
    private static final String FULL = "house a 0 10 100;house b 0 10 100;house c 0 10 100;house d 0 10 100;house e 0 10 100;"
        + "person a of a;person b of b;person c of c;person d of d;person e of e;";
    /** Nobody's houses and strangers. */
    private static final String FREE = "house a 9 10 100;house b 0 0 0;house c 0 0 0;house d 0 0 0;house e 0 0 0;"
        + "person a;person b;person c;person d;person e;chairs 4;";

    public static void main(String[] args) {
        DUE.says("STATE 0 .. 100; at most 5. person: a name, whose house that one is; without: a STRANGER; at most 5.");
        quarters();
        guests();
        daysAndPlans();
        laws();
        doors();
        books();
        DUE.close();
    }

    private static void due(String call, int got, int want) {
        DUE.due(call, got, want);
    }

    private static void quarters() {
        OwnedByGuests x = Due.of(FULL);
        due("pass(3)", x.pass(3), 3);
        for (int k = 0; k < 5; k++) {
            due("who(" + k + ", 0)", x.who(k, 0), k);
            due("who(" + k + ", 1)", x.who(k, 1), 3);
            due("who(" + k + ", 2)", x.who(k, 2), 10);
            due("who(" + k + ", 3)", x.who(k, 3), 30);
            due("house(" + k + ", 0)", x.house(k, 0), k);
            due("house(" + k + ", 3)", x.house(k, 3), 0);
            due("word(" + k + ")", x.word(k), 1);
            due("planned(" + k + ", 3)", x.planned(k, 3), k);
        }
        due("who(5, 0)", x.who(5, 0), -1000000);
        due("house(5, 0)", x.house(5, 0), RANGE);
        due("word(5)", x.word(5), RANGE);
        due("keep(2)", x.keep(2), 3);
        x.pass(1);
        due("take(2)", x.take(2), 3);
        due("who(4, 1)", x.who(4, 1), 3);
    }

    private static void guests() {
        OwnedByGuests x = Due.of(FREE);
        for (int p = 0; p < 5; p++) {
            Due.plan(x, p, "0000");
        }
        x.pass(1);
        due("house(0, 0)", x.house(0, 0), 0);
        due("word(0) of four", x.word(0), 4);
        due("house(0, 3)", x.house(0, 3), 4);
        due("who(4, 0)", x.who(4, 0), NONE);
        Due.plan(x, 0, "4444");
        x.pass(1);
        due("who(0, 0)", x.who(0, 0), 4);
        due("who(4, 0)", x.who(4, 0), 0);
        due("house(0, 0)", x.house(0, 0), 1);
        due("word(4)", x.word(4), 2);
        x = Due.of(FREE + "last;");
        for (int p = 0; p < 5; p++) {
            Due.plan(x, p, p < 1 ? "4444" : "0000");
        }
        x.pass(1);
        due("house(0, 0) with last", x.house(0, 0), 4);
        due("word(0) with last", x.word(0), 4);
    }

    private static void daysAndPlans() {
        OwnedByGuests x = Due.of(FULL);
        for (int p = 0; p < 5; p++) {
            due("sum(" + p + ")", x.sum(p), 40);
            due("best(" + p + ", 4)", x.best(p, 4), 40);
            due("when(" + p + ")", x.when(p), 0);
            due("bound(" + p + ", 40)", x.bound(p, 40), 0);
            due("bound(" + p + ", 39)", x.bound(p, 39), NONE);
            due("guard(" + p + ", " + (p + 1) % 5 + "): 10, 9, 9, 9", x.guard(p, (p + 1) % 5), 0);
        }
        // a house that was left is mended by one a quarter: a's gives 10 again in the fourth
        int[] row = {0, 1, 2, 0};
        for (int i = 0; i < 4; i++) {
            due("best(4, " + i + ")", x.best(4, i), row[i]);
        }
        due("settle()", x.settle(), 1);
        due("rings(0)", x.rings(0), 44);
        due("rings(1)", x.rings(1), 10342);
        // all at home is a rest: as a guest one would have 10 too
        int rests = x.rests();
        due("rests() are some", rests > 0 ? 1 : 0, 1);
        due("rest(rests(), 4)", x.rest(rests, 4), RANGE);
        due("longer(4, 60, 1)", x.longer(4, 60, 1), 100);
        due("longer(4, 60, 0)", x.longer(4, 60, 0), 0);
    }

    private static void laws() {
        OwnedByGuests x = Due.of(FULL);
        due("law(false, 28, 20, 0)", x.law(false, 28, 20, 0), 5 * 80 * 10);
        due("law(true, 0, 20, 1)", x.law(true, 0, 20, 1), 0);
        due("bestLaw(20)", x.bestLaw(20), 0);
        // each is the next one's guest: each house is worn by 2 a quarter as long as he counts
        for (int p = 0; p < 5; p++) {
            Due.plan(x, p, String.valueOf((p + 1) % 5).repeat(4));
        }
        due("law(false, 28, 1, 1)", x.law(false, 28, 1, 1), 5 * 8);
        due("law(false, 28, 1, 0)", x.law(false, 28, 1, 0), 5 * (10 + 9 + 9 + 9));
        due("law(false, 2, 1, 1)", x.law(false, 2, 1, 1), 5 * 4);
        due("law(false, 0, 1, 0): nobody has any", x.law(false, 0, 1, 0), 0);
        due("bestLaw(1)", x.bestLaw(1), 4);
    }

    private static void doors() {
        OwnedByGuests x = Due.of(FULL);
        for (int p = 0; p < 5; p++) {
            due("whom(" + p + ") when nobody comes", x.whom(p), 0);
            due("show(" + p + ") when nobody comes", x.show(p), 1);
            due("edge(" + p + ", " + (p + 4) % 5 + ") when nobody comes", x.edge(p, (p + 4) % 5), NONE);
        }
        // all others come to e's house, who likes d alone and has nothing of it by after
        x = Due.of(FULL + "chairs 4;after 0;tie e d 11;tie e a 9;tie e b 9;tie e c 9;");
        for (int p = 0; p < 4; p++) {
            Due.plan(x, p, "4444");
        }
        due("whom(4)", x.whom(4), 8);
        due("edge(4, 0)", x.edge(4, 0), 0);
        due("edge(4, 3)", x.edge(4, 3), NONE);
        due("show(4)", x.show(4), 1);
        due("feast()", Due.feast(x, "43210"), 2);
        due("turned(4, 999)", x.turned(4, 999), 0);
        due("turned(5, 999)", x.turned(5, 999), RANGE);
    }

    private static void books() {
        OwnedByGuests x = Due.of(FULL);
        due("book() of all at home", Due.book(x, "0 0 0;0 1 1;0 2 2;0 3 3;0 4 4;"), 5);
        due("book() of all in the next one's", Due.book(x, "0 0 1;0 1 2;0 2 3;0 3 4;0 4 0;"), 5);
        due("book() of all in e's", Due.book(x, "0 0 4;0 1 4;0 2 4;"), -3);
        due("book() of all out", Due.book(x, "99 4 5;99 3 5;99 2 5;99 1 5;99 0 5;"), 5);
    }
}
