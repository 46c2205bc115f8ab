/** Promises 8 to 17: plans, lets, the chance, quarters, who has a house and by which word, slots. */
public final class QuartersTest {
    private static final Due DUE = new Due();
    private static final String TWO = "house h 5 10 100;house k 0 20 50;person x of h;person y of k;person z;"
        + "tie x z 13;tie z x 4;";

    public static void main(String[] args) {
        plans();
        letsAndChance();
        quartersByHand("");
        quartersByHand("last;");
        wordOfAlikeOnes();
        chairs();
        afterIsOver();
        doors();
        ownersComeHome();
        leavingComesFirst();
        work();
        wearMendTake();
        strolls();
        seldomStrolls();
        workersDrawToo();
        slots();
        wrongNumbers();
        DUE.close();
    }

    private static void due(String call, int got, int want) {
        DUE.due(call, got, want);
    }

    private static void plans() {
        OwnedByGuests x = Due.of(TWO);
        due("planned(0, 3) at first", x.planned(0, 3), 0);
        due("planned(1, 0) at first", x.planned(1, 0), 1);
        due("planned(2, 0) at first", x.planned(2, 0), OwnedByGuests.NONE);
        due("plan(2)", Due.plan(x, 2, "01o1"), 1);
        int[] want = {0, 1, -1, 1};
        for (int i = 0; i < 4; i++) {
            due("planned(2, " + i + ")", x.planned(2, i), want[i]);
        }
        String[] wrong = {"", "000", "00000", "0002", "/000", "000O", "0 00", "000\u006e", "000\u00b0"};
        for (String row : wrong) {
            due("plan(2) of '" + row + "'", Due.plan(x, 2, row), OwnedByGuests.NONE);
        }
        due("plan(3)", Due.plan(x, 3, "0000"), OwnedByGuests.RANGE);
        due("plan(-1)", Due.plan(x, -1, "9999"), OwnedByGuests.RANGE);
        due("planned(2, 0) stays", x.planned(2, 0), 0);
        due("planned(2, 2) stays", x.planned(2, 2), OwnedByGuests.NONE);
        due("planned(2, 4)", x.planned(2, 4), OwnedByGuests.RANGE);
        due("planned(2, -1)", x.planned(2, -1), OwnedByGuests.RANGE);
        due("planned(3, 0)", x.planned(3, 0), OwnedByGuests.RANGE);
        due("planned(-1, 0)", x.planned(-1, 0), OwnedByGuests.RANGE);
    }

    private static void letsAndChance() {
        OwnedByGuests x = Due.of(TWO);
        due("lets(0, 5)", x.lets(0, 5), 31);
        due("lets(0, 0)", x.lets(0, 0), 5);
        due("lets(0, 31)", x.lets(0, 31), 0);
        due("lets(1, 31) is its own", x.lets(1, 31), 31);
        due("lets(0, 32)", x.lets(0, 32), OwnedByGuests.RANGE);
        due("lets(0, -1)", x.lets(0, -1), OwnedByGuests.RANGE);
        due("lets(3, 0)", x.lets(3, 0), OwnedByGuests.RANGE);
        due("lets(-1, 0)", x.lets(-1, 0), OwnedByGuests.RANGE);
        due("chance(0)", x.chance(0), 1);
        due("chance(greatest)", x.chance(Integer.MAX_VALUE), 1);
        due("chance(-1)", x.chance(-1), OwnedByGuests.RANGE);
    }

    /** x and y are at home; z comes to x's house and then y does; without last z has it still, with last y. */
    private static void quartersByHand(String law) {
        OwnedByGuests x = Due.of(TWO + law);
        state(x, "at first", new int[] {0, 0, 0, 0, 1, 0, 0, 0, -1, 0, 0, 0}, new int[] {0, 5, 100, 0, 1, 0, 50, 0});
        due("word(0) at first", x.word(0), 1);
        due("pass(1)", x.pass(1), 1);
        state(x, "one", new int[] {0, 1, 11, 11, 1, 1, 10, 10, -1, 0, 0, 0}, new int[] {0, 4, 100, 0, 1, 0, 51, 0});
        Due.plan(x, 2, "0000");
        due("pass(1)", x.pass(1), 2);
        state(x, "two", new int[] {0, 2, 3, 14, 1, 2, 10, 20, 0, 0, 5, 5}, new int[] {2, 3, 98, 1, 1, 0, 52, 0});
        due("word(0) of one guest", x.word(0), 2);
        Due.plan(x, 1, "0000");
        due("pass(1)", x.pass(1), 3);
        if (law.isEmpty()) {
            state(x, "three", new int[] {0, 3, 3, 17, 0, 0, 0, 20, 0, 1, 4, 9},
                new int[] {2, 2, 96, 2, -1, 0, 52, 0});
        } else {
            state(x, "three, last", new int[] {0, 3, 3, 17, 0, 0, 10, 30, 0, 1, -6, -1},
                new int[] {1, 2, 96, 2, -1, 0, 52, 0});
        }
        due("word(0) of the longest or least", x.word(0), 3);
        due("word(1) of nobody", x.word(1), 0);
        due("pass(0)", x.pass(0), 3);
        due("who(0, 2) behind no quarter", x.who(0, 2), 3);
    }

    /** People: where, stayed, latest, all; houses: who has it, store, state, guests. */
    private static void state(OwnedByGuests x, String at, int[] people, int[] houses) {
        for (int i = 0; i < people.length; i++) {
            due(at + ": who(" + i / 4 + ", " + i % 4 + ")", x.who(i / 4, i % 4), people[i]);
        }
        for (int i = 0; i < houses.length; i++) {
            due(at + ": house(" + i / 4 + ", " + i % 4 + ")", x.house(i / 4, i % 4), houses[i]);
        }
    }

    private static void wordOfAlikeOnes() {
        String text = "house h 0 10 100;person a;person b;person c;chairs 3;after 2;";
        OwnedByGuests x = Due.of(text);
        Due.plan(x, 0, "ooo0");
        Due.plan(x, 1, "0000");
        Due.plan(x, 2, "0000");
        x.pass(1);
        due("of alike ones the least number", x.house(0, 0), 1);
        due("word(0) of alike ones", x.word(0), 4);
        x.pass(2);
        due("guests that count no more", x.house(0, 0), OwnedByGuests.NONE);
        due("guests are there all the same", x.house(0, 3), 2);
        due("word(0) of a house that nobody has", x.word(0), 0);
        x.pass(1);
        due("the only one that counts", x.house(0, 0), 0);
        due("word(0) of the only one that counts", x.word(0), 2);
        x = Due.of(text + "last;");
        Due.plan(x, 0, "o0o0");
        Due.plan(x, 1, "0000");
        Due.plan(x, 2, "0000");
        x.pass(1);
        due("last: of alike ones the greatest number", x.house(0, 0), 2);
        due("last: word(0) of alike ones", x.word(0), 4);
        x.pass(1);
        due("last: who stayed least", x.house(0, 0), 0);
        due("last: word(0) of who stayed least", x.word(0), 3);
        // one stayed as many as count no more
        x = Due.of(text);
        Due.plan(x, 0, "0000");
        Due.plan(x, 1, "o000");
        x.pass(3);
        due("stayed 2 of after 2", x.who(0, 1), 2);
        due("who stayed 1 has it", x.house(0, 0), 1);
        due("word(0) beside one that counts no more", x.word(0), 2);
        // two are alike, but not those who stayed longest
        x = Due.of("house h 0 10 100;person a;person b;person c;chairs 3;");
        Due.plan(x, 0, "o000");
        Due.plan(x, 1, "o000");
        Due.plan(x, 2, "0000");
        x.pass(2);
        due("who stayed longest beside alike ones", x.house(0, 0), 2);
        due("word(0) beside alike ones", x.word(0), 3);
    }

    private static void chairs() {
        OwnedByGuests x = Due.of("chairs 2;house h 0 0 0;person o of h;person a;person b;person c;");
        for (int p = 1; p < 4; p++) {
            Due.plan(x, p, "0000");
        }
        x.pass(1);
        due("first comes", x.who(1, 0), 0);
        due("second comes", x.who(2, 0), 0);
        due("no chair for the third", x.who(3, 0), OwnedByGuests.NONE);
        due("whose it is needs no chair", x.house(0, 3), 2);
        Due.plan(x, 1, "oooo");
        x.pass(1);
        due("a chair is free when one left", x.who(3, 0), 0);
        // who leaves and comes in the same quarter gives up his chair to a lesser number
        x = Due.of("chairs 1;house h 0 0 0;house k 0 0 0;person a;person b;");
        Due.plan(x, 1, "0100");
        Due.plan(x, 0, "o010");
        x.pass(2);
        due("a took b's chair", x.who(0, 0), 0);
        due("b went on to k", x.who(1, 0), 1);
        x.pass(1);
        due("a and b change by numbers", x.who(0, 0), 1);
        due("b finds a's chair free", x.who(1, 0), 0);
        x.pass(1);
        due("a finds b's chair taken", x.who(0, 0), OwnedByGuests.NONE);
    }

    private static void afterIsOver() {
        OwnedByGuests x = Due.of("after 2;house h 0 10 100;person o of h;person z;");
        Due.plan(x, 1, "0000");
        x.pass(2);
        due("stayed 1: has it", x.house(0, 0), 1);
        due("state is worn twice", x.house(0, 2), 96);
        x.pass(1);
        due("stayed 2: whose it is has it", x.house(0, 0), 0);
        due("word(0)", x.word(0), 1);
        due("his gain", x.who(0, 2), 9);
        due("the guest's", x.who(1, 2), 0);
        due("mended", x.house(0, 2), 97);
        x = Due.of("after 0;house h 0 10 100;person o of h;person z;");
        Due.plan(x, 1, "0000");
        x.pass(1);
        due("after 0: a guest never has it", x.house(0, 0), 0);
        due("after 0: he is there", x.who(1, 0), 0);
    }

    private static void doors() {
        OwnedByGuests x = Due.of("chairs 4;house h 0 10 100;person o of h;person y;person z;");
        x.lets(0, 2);
        x.lets(1, 0);
        Due.plan(x, 1, "o000");
        Due.plan(x, 2, "0000");
        x.pass(1);
        due("z isn't let in", x.who(2, 0), OwnedByGuests.NONE);
        due("z stayed nowhere", x.who(2, 1), 0);
        x.lets(0, 31);
        x.pass(1);
        due("y is let in, by number", x.who(1, 0), 0);
        due("z isn't let in by y, who has it", x.who(2, 0), OwnedByGuests.NONE);
        Due.plan(x, 0, "oooo");
        Due.plan(x, 1, "oooo");
        x.lets(0, 0);
        x.pass(1);
        due("z comes to a house that nobody has", x.who(2, 0), 0);
    }

    private static void ownersComeHome() {
        OwnedByGuests x = Due.of("chairs 1;house h 0 10 100;person z;person o of h;");
        x.lets(0, 0);
        Due.plan(x, 0, "0000");
        Due.plan(x, 1, "o000");
        x.pass(2);
        due("o comes home though z lets nobody in and chairs are taken", x.who(1, 0), 0);
        due("but z has it", x.house(0, 0), 0);
        due("one guest", x.house(0, 3), 1);
        due("o stayed", x.who(1, 1), 0);
        x.pass(1);
        due("o stayed one more", x.who(1, 1), 1);
        due("z stayed two", x.who(0, 1), 2);
    }

    /** Whoever wishes elsewhere is out before the first comes in. */
    private static void leavingComesFirst() {
        OwnedByGuests x = Due.of("house h 0 10 100;person z;person o of h;");
        x.lets(1, 0);
        Due.plan(x, 0, "0000");
        Due.plan(x, 1, "oooo");
        x.pass(1);
        due("z comes in ahead of o's number, o having left", x.who(0, 0), 0);
        due("o is out", x.who(1, 0), OwnedByGuests.NONE);
        due("o stayed out: none", x.who(1, 1), 0);
        x.pass(3);
        due("o stayed out: none", x.who(1, 1), 0);
    }

    private static void work() {
        OwnedByGuests x = Due.of("house h 0 10 100;person o of h;work o 10;");
        int[] places = {0, -1, 0, -1, 0, -1};
        for (int i = 0; i < places.length; i++) {
            x.pass(1);
            due("work in quarter " + i, x.who(0, 0), places[i]);
        }
        due("gain of three quarters", x.who(0, 3), 30);
        due("planned(0, 1) is as planned", x.planned(0, 1), 0);
    }

    private static void wearMendTake() {
        OwnedByGuests x = Due.of("house h 5 20 3;house k 4 7 99;person z;person o of k;wear 2;mend 3;take 3;");
        Due.plan(x, 0, "0000");
        x.pass(1);
        due("z takes 3", x.who(0, 2), 3);
        due("o: 6 (cut) and 3", x.who(1, 2), 9);
        due("worn", x.house(0, 2), 1);
        due("mended to 100 at most", x.house(1, 2), 100);
        x.pass(1);
        due("z takes the 2 that are left", x.who(0, 2), 2);
        due("o: 7 and 1", x.who(1, 2), 8);
        due("worn to 0 at least", x.house(0, 2), 0);
        due("store 0", x.house(0, 1), 0);
        x.pass(1);
        due("nothing is left", x.who(0, 2), 0);
        due("all of z", x.who(0, 3), 5);
        due("all of o", x.who(1, 3), 24);
    }

    /** By the seed 1 the chance draws of 16838, 5758, 10113, 17515, 31051, 5627, 23010, 7419, 16212, 4086. */
    private static void strolls() {
        String text = "house h 0 10 100;person o of h;stroll ";
        OwnedByGuests x = Due.of(text + "39;");
        int[] places = {0, -1, 0, 0};
        for (int i = 0; i < places.length; i++) {
            x.pass(1);
            due("stroll 39, quarter " + i, x.who(0, 0), places[i]);
        }
        x = Due.of(text + "38;");
        places = new int[] {0, 0, -1, 0};
        for (int i = 0; i < places.length; i++) {
            x.pass(1);
            due("stroll 38, quarter " + i, x.who(0, 0), places[i]);
        }
        due("the chance stays with another village", Due.village(x, text + "100;"), 3);
        x.pass(1);
        // drawn so far: five and, for the fourth quarter's stroll by 5627 % 100 = 27, 23010; now 7419 and 16212
        due("it goes on", x.who(0, 0), 0);
        x.chance(1);
        Due.village(x, "house h 0 10 100;house k 0 10 100;person o of h;stroll 100;");
        x.pass(1);
        due("5758 of three places", x.who(0, 0), 5758 % 3 == 2 ? -1 : 5758 % 3);
        x.pass(1);
        due("17515 of three places", x.who(0, 0), 17515 % 3 == 2 ? -1 : 17515 % 3);
        due("planned(0, 0) is as planned", x.planned(0, 0), 0);
        x.chance(Integer.MAX_VALUE);
        x.pass(1);
        // s is 1103515245 times -1 and 12345 modulo 2^31: 1043980748, over 65536: 15929; then 4409
        due("the greatest seed", x.who(0, 0), 4409 % 3 == 2 ? -1 : 4409 % 3);
    }

    private static void seldomStrolls() {
        OwnedByGuests x = Due.of("house h 0 10 100;person o of h;");
        x.pass(6);
        Due.village(x, "house h 0 10 100;person o of h;stroll 100;");
        x.pass(1);
        // with stroll 0 nothing was drawn: 16838 and 5758, 10113 and 17515
        due("5758 of two", x.who(0, 0), 0);
        x.pass(1);
        due("17515 of two", x.who(0, 0), OwnedByGuests.NONE);
        Due.village(x, "house h 0 10 100;person o of h;stroll 1;");
        x.chance(132);
        x.pass(1);
        // by the seed 132: 27200, which is 0 of a hundred, and 12211
        due("stroll 1", x.who(0, 0), OwnedByGuests.NONE);
    }

    private static void workersDrawToo() {
        OwnedByGuests x = Due.of("house h 0 10 100;person o of h;person z;work o 15;stroll 100;");
        x.pass(1);
        // o draws 16838 and strolls not; z draws 5758 and then 10113 of two: out
        due("who must work is out", x.who(0, 0), OwnedByGuests.NONE);
        due("z: 10113 of two", x.who(1, 0), OwnedByGuests.NONE);
        x.pass(1);
        // o 17515; z 31051 and 5627
        due("z: 5627 of two", x.who(1, 0), OwnedByGuests.NONE);
        x.pass(1);
        // o 23010; z 7419 and 16212
        due("z: 16212 of two", x.who(1, 0), 0);
    }

    private static void slots() {
        OwnedByGuests x = Due.of("house h 50 10 100;house k 9 5 50;person o of h;person z;stroll 60;");
        Due.plan(x, 1, "0101");
        x.lets(0, 30);
        x.chance(77);
        x.pass(5);
        due("take(0) of an empty slot", x.take(0), OwnedByGuests.STATE);
        due("keep(0)", x.keep(0), 5);
        int[] kept = look(x);
        x.pass(9);
        int[] later = look(x);
        due("keep(2)", x.keep(2), 14);
        Due.plan(x, 1, "oooo");
        x.lets(0, 0);
        x.chance(5);
        x.pass(3);
        due("take(0)", x.take(0), 5);
        same("as kept", look(x), kept);
        due("its plan", x.planned(1, 1), 1);
        due("its lets", x.lets(0, 30), 30);
        x.pass(9);
        same("gone on by the chance that was kept", look(x), later);
        due("take(0) again", x.take(0), 5);
        same("a slot keeps on", look(x), kept);
        due("take(2)", x.take(2), 14);
        same("another slot", look(x), later);
        due("take(1)", x.take(1), OwnedByGuests.STATE);
        due("keep(3)", x.keep(3), OwnedByGuests.RANGE);
        due("keep(-1)", x.keep(-1), OwnedByGuests.RANGE);
        due("take(3)", x.take(3), OwnedByGuests.RANGE);
        due("take(-1)", x.take(-1), OwnedByGuests.RANGE);
    }

    private static int[] look(OwnedByGuests x) {
        int[] seen = new int[17];
        for (int i = 0; i < 8; i++) {
            seen[i] = x.who(i / 4, i % 4);
            seen[8 + i] = x.house(i / 4, i % 4);
        }
        seen[16] = x.count(1);
        return seen;
    }

    private static void same(String what, int[] got, int[] want) {
        for (int i = 0; i < want.length; i++) {
            due(what + " [" + i + "]", got[i], want[i]);
        }
    }

    private static void wrongNumbers() {
        OwnedByGuests x = Due.of(TWO);
        due("pass(400)", x.pass(400), 400);
        due("pass(401)", x.pass(401), OwnedByGuests.RANGE);
        due("pass(-1)", x.pass(-1), OwnedByGuests.RANGE);
        due("count(1)", x.count(1), 400);
        due("who(3, 0)", x.who(3, 0), -1000000);
        due("who(-1, 0)", x.who(-1, 0), -1000000);
        due("who(0, 4)", x.who(0, 4), -1000000);
        due("who(0, -1)", x.who(0, -1), -1000000);
        due("house(2, 0)", x.house(2, 0), OwnedByGuests.RANGE);
        due("house(-1, 0)", x.house(-1, 0), OwnedByGuests.RANGE);
        due("house(0, 4)", x.house(0, 4), OwnedByGuests.RANGE);
        due("house(0, -1)", x.house(0, -1), OwnedByGuests.RANGE);
        due("word(2)", x.word(2), OwnedByGuests.RANGE);
        due("word(-1)", x.word(-1), OwnedByGuests.RANGE);
    }
}
