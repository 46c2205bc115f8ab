/** Terms II and promises 8 to 17: a test for each sentence that names a boundary. */
public final class BoundsOfQuartersTest {
    private static final Due DUE = new Due();
    private static final Twins TWINS = new Twins(DUE);
    private static final int NONE = OwnedByGuests.NONE;
    private static final int RANGE = OwnedByGuests.RANGE;
    private static final int STATE = OwnedByGuests.STATE;
    private static final int[] WILD = {Integer.MIN_VALUE, -1000000, -2, Integer.MAX_VALUE, 1000000};

    public static void main(String[] args) {
        fourADay();
        atFirst();
        guestsAndOwners();
        fewerThanAfter();
        longestOfAlikeOnes();
        leastWithLast();
        noGuestThatCounts();
        mustWork();
        strollsBelow();
        strollsOfPlaces();
        workersDrawOnce();
        whoStays();
        chairsThen();
        letIn();
        ownHouse();
        elseOut();
        gainIsCut();
        gainOfTheStore();
        gainOfTies();
        storeAndState();
        theChance();
        plans();
        planOfNoSuchRow();
        plannedAsked();
        lets();
        chances();
        passes();
        whoAsked();
        houseAsked();
        wordAsked();
        keeps();
        takes();
        takesAll();
        DUE.close();
    }

    private static void due(String call, int got, int want) {
        DUE.due(call, got, want);
    }

    private static void planAll(OwnedByGuests x, String... rows) {
        for (int p = 0; p < rows.length; p++) {
            due("plan(" + p + ") of " + rows[p], Due.plan(x, p, rows[p]), 1);
        }
    }

    // ---- terms

    private static void fourADay() {
        DUE.says("QUARTERS run from 0 on, four a day.");
        OwnedByGuests x = Due.of("house a 0 0 0;house b 0 0 0;house c 0 0 0;person x;");
        planAll(x, "012o");
        int[] places = {0, 1, 2, -1};
        for (int quarter = 0; quarter < 12; quarter++) {
            due("pass(1)", x.pass(1), quarter + 1);
            due("where he is behind quarter " + quarter, x.who(0, 0), places[quarter % 4]);
        }
        due("pass(389)", x.pass(389), 401);
        due("where he is behind quarter 400", x.who(0, 0), 0);
        x.pass(3);
        due("where he is behind quarter 403", x.who(0, 0), NONE);
    }

    private static void atFirst() {
        DUE.says("A PERSON is in a HOUSE or OUT; at first in his own (a STRANGER: OUT), all having STAYED 0.");
        OwnedByGuests x = Due.of("house a 0 0 0;house b 0 0 0;person x of b;person y;person z of a;");
        int[] homes = {1, -1, 0};
        for (int p = 0; p < 3; p++) {
            due("who(" + p + ", 0)", x.who(p, 0), homes[p]);
            due("who(" + p + ", 1)", x.who(p, 1), 0);
        }
        DUE.says("(at first his own HOUSE, or OUT)");
        for (int p = 0; p < 3; p++) {
            for (int quarter = 0; quarter < 4; quarter++) {
                due("planned(" + p + ", " + quarter + ")", x.planned(p, quarter), homes[p]);
            }
        }
        DUE.says("LETS: whom he lets in, as bits (all, at first).");
        for (int p = 0; p < 3; p++) {
            due("lets(" + p + ", 31)", x.lets(p, 31), 31);
        }
    }

    private static void guestsAndOwners() {
        DUE.says("In a HOUSE that isn't his own he is a GUEST.");
        OwnedByGuests x = Due.of("house a 0 0 0;house b 0 0 0;house free 0 0 0;person x of a;person y of b;person z;");
        due("house(0, 3): whose it is is none", x.house(0, 3), 0);
        planAll(x, "0011", "0011", "2220");
        x.pass(1);
        due("house(0, 3): one who has a house of his own", x.house(0, 3), 1);
        due("house(1, 3)", x.house(1, 3), 0);
        due("house(2, 3): all are in a house that is nobody's", x.house(2, 3), 1);
        x.pass(2);
        due("house(0, 3): whose it is went away", x.house(0, 3), 0);
        due("house(1, 3): the other way round", x.house(1, 3), 1);
        x.pass(1);
        due("house(0, 3): a stranger", x.house(0, 3), 1);
    }

    private static void fewerThanAfter() {
        DUE.says("of GUESTS in it who STAYED there fewer than after QUARTERS");
        int[] afters = {0, 1, 2, 3, 12, 27, 28};
        for (int after : afters) {
            OwnedByGuests x = Due.of("after " + after + ";house h 0 0 0;house free 0 0 0;person o of h;person y;person z;");
            planAll(x, "0000", "0000", "1111");
            for (int stayed = 0; stayed < 31; stayed++) {
                x.pass(1);
                due("who(1, 1)", x.who(1, 1), stayed);
                boolean counts = stayed < after;
                String at = ", after " + after + ", stayed " + stayed;
                due("house(0, 0)" + at, x.house(0, 0), counts ? 1 : 0);
                due("word(0)" + at, x.word(0), counts ? 2 : 1);
                due("house(1, 0)" + at, x.house(1, 0), counts ? 2 : NONE);
                due("word(1)" + at, x.word(1), counts ? 2 : 0);
                due("house(1, 3)" + at, x.house(1, 3), 1);
            }
        }
        // who leaves and comes again counts again
        OwnedByGuests x = Due.of("after 1;house h 0 0 0;person o of h;person y;");
        planAll(x, "0000", "0o00");
        int[] has = {1, 0, 1, 0, 0, 0, 1};
        for (int quarter = 0; quarter < has.length; quarter++) {
            x.pass(1);
            due("house(0, 0) behind quarter " + quarter, x.house(0, 0), has[quarter]);
        }
    }

    private static void longestOfAlikeOnes() {
        DUE.says("the one who STAYED longest, of alike ones the least number");
        OwnedByGuests x = Due.of("chairs 4;after 3;house h 0 0 0;person a;person b;person c;person d;");
        planAll(x, "o000", "0000", "0000", "o000");
        int[] has = {1, 1, 1, 0, NONE};
        int[] words = {4, 4, 4, 4, 0};
        for (int i = 0; i < has.length; i++) {
            x.pass(1);
            if (i < 4) {
                due("house(0, 0) behind quarter " + i, x.house(0, 0), has[i]);
                due("word(0) behind quarter " + i, x.word(0), words[i]);
            }
        }
        // behind quarter 4 a and d left for out and b and c stayed four
        due("who(0, 0)", x.who(0, 0), NONE);
        due("house(0, 0) behind quarter 4", x.house(0, 0), NONE);
        due("word(0) behind quarter 4", x.word(0), 0);
    }

    private static void leastWithLast() {
        DUE.says("(\"last\" told: who STAYED least, of alike ones the greatest number)");
        OwnedByGuests x = Due.of("last;chairs 4;after 3;house h 0 0 0;person a;person b;person c;person d;");
        planAll(x, "o000", "0000", "0000", "oo00");
        int[] has = {2, 0, 3, 3};
        int[] words = {4, 3, 3, 3};
        for (int i = 0; i < has.length; i++) {
            x.pass(1);
            due("house(0, 0) behind quarter " + i, x.house(0, 0), has[i]);
            due("word(0) behind quarter " + i, x.word(0), words[i]);
        }
        // behind quarter 3 a stayed 2, b and c 3, d 1: only a and d count
        due("who(0, 1)", x.who(0, 1), 2);
        due("who(1, 1)", x.who(1, 1), 3);
        due("who(3, 1)", x.who(3, 1), 1);
    }

    private static void noGuestThatCounts() {
        DUE.says("if there is none: whose it is, if that one is in it; else NOBODY.");
        OwnedByGuests x = Due.of("after 1;house h 8 10 50;house free 0 0 0;person o of h;person y;");
        due("house(0, 0): whose it is", x.house(0, 0), 0);
        due("house(1, 0): an empty one that is nobody's", x.house(1, 0), NONE);
        planAll(x, "ooo0", "o000");
        x.pass(1);
        due("house(0, 0): whose it is is out", x.house(0, 0), NONE);
        due("word(0)", x.word(0), 0);
        x.pass(1);
        due("house(0, 0): a guest", x.house(0, 0), 1);
        x.pass(1);
        due("house(0, 0): he counts no more, and whose it is is out", x.house(0, 0), NONE);
        due("word(0)", x.word(0), 0);
        due("house(0, 3)", x.house(0, 3), 1);
        x.pass(1);
        due("house(0, 0): whose it is came home", x.house(0, 0), 0);
        due("word(0)", x.word(0), 1);
    }

    private static void mustWork() {
        DUE.says("OUT, if he must work then");
        OwnedByGuests x = Due.of("house h 0 10 100;person o of h;person z;work o 9;work z 15;");
        planAll(x, "0000", "0000");
        int[] places = {-1, 0, 0, -1, -1, 0, 0, -1};
        for (int i = 0; i < places.length; i++) {
            x.pass(1);
            due("who(0, 0) behind quarter " + i, x.who(0, 0), places[i]);
            due("who(1, 0) behind quarter " + i, x.who(1, 0), NONE);
        }
        due("who(0, 3): four quarters at home", x.who(0, 3), 40);
        due("who(1, 3)", x.who(1, 3), 0);
    }

    /** The document's chance, for the tests. */
    private static final class Drawn {
        long seed;

        Drawn(long seed) {
            this.seed = seed;
        }

        int of(int n) {
            seed = java.math.BigInteger.valueOf(1103515245).multiply(java.math.BigInteger.valueOf(seed))
                .add(java.math.BigInteger.valueOf(12345)).mod(java.math.BigInteger.valueOf(2147483648L)).longValue();
            return (int) (seed / 65536 % n);
        }
    }

    private static void strollsBelow() {
        DUE.says("one of 100 is drawn by THE CHANCE: below it, his wish is instead drawn of (HOUSES and 1)");
        int[] seeds = {0, 1, 2, 77, 132, 65535, 65536, 1000000007, 2147483646, 2147483647};
        for (int seed : seeds) {
            int first = new Drawn(seed).of(100);
            int[] strolls = {1, first, first + 1, 99, 100};
            for (int stroll : strolls) {
                if (stroll >= 1 && stroll <= 100) {
                    OwnedByGuests x = Due.of("house h 0 0 0;person z;stroll " + stroll + ";");
                    x.chance(seed);
                    x.pass(1);
                    Drawn drawn = new Drawn(seed);
                    int place = drawn.of(100) < stroll && drawn.of(2) == 0 ? 0 : NONE;
                    due("who(0, 0) by the seed " + seed + " and stroll " + stroll, x.who(0, 0), place);
                }
            }
        }
        DUE.says("with stroll above 0");
        // nothing is drawn with stroll 0: the chance is as it was
        OwnedByGuests x = Due.of("house h 0 0 0;person z;stroll 0;");
        x.chance(77);
        planAll(x, "0o0o");
        for (int i = 0; i < 8; i++) {
            x.pass(1);
            due("who(0, 0) goes by his plan", x.who(0, 0), i % 2 == 0 ? 0 : NONE);
        }
        Due.village(x, "house h 0 0 0;person z;stroll 100;");
        Drawn drawn = new Drawn(77);
        for (int i = 0; i < 8; i++) {
            x.pass(1);
            drawn.of(100);
            due("who(0, 0) strolls by the seed 77", x.who(0, 0), drawn.of(2) == 0 ? 0 : NONE);
        }
    }

    private static void strollsOfPlaces() {
        DUE.says("a HOUSE by its number, or OUT for the last number");
        for (int houses = 0; houses <= 5; houses++) {
            StringBuilder text = new StringBuilder("stroll 100;person a;");
            for (int h = 0; h < houses; h++) {
                text.append("house ").append((char) ('a' + h)).append(" 0 0 0;");
            }
            OwnedByGuests x = Due.of(text.toString());
            Drawn drawn = new Drawn(1);
            for (int i = 0; i < 40; i++) {
                x.pass(1);
                drawn.of(100);
                int place = drawn.of(houses + 1);
                due("who(0, 0) in " + houses + " houses", x.who(0, 0), place == houses ? NONE : place);
            }
        }
    }

    private static void workersDrawOnce() {
        DUE.says("(who must work strolls not: for him the first is drawn all the same)");
        OwnedByGuests x = Due.of("house a 0 0 0;house b 0 0 0;person x of a;person y;stroll 60;work x 5;chairs 4;");
        Drawn drawn = new Drawn(1);
        int[] wish = new int[2];
        for (int quarter = 0; quarter < 60; quarter++) {
            boolean works = quarter % 4 == 0 || quarter % 4 == 2;
            for (int p = 0; p < 2; p++) {
                wish[p] = p == 0 && !works ? 0 : NONE;
                boolean below = drawn.of(100) < 60;
                if (below && (p == 1 || !works)) {
                    int place = drawn.of(3);
                    wish[p] = place == 2 ? NONE : place;
                }
            }
            x.pass(1);
            due("who(0, 0) behind quarter " + quarter, x.who(0, 0), wish[0]);
            due("who(1, 0) behind quarter " + quarter, x.who(1, 0), wish[1]);
        }
    }

    private static void whoStays() {
        DUE.says("Who wishes to be elsewhere leaves (he is OUT); who stays has STAYED one QUARTER more (OUT: none).");
        OwnedByGuests x = Due.of("house a 0 0 0;house b 0 0 0;person x of a;person y;");
        planAll(x, "0001", "oooo");
        int[] stayed = {1, 2, 3, 0, 0, 1, 2, 0};
        for (int i = 0; i < stayed.length; i++) {
            x.pass(1);
            due("who(0, 1) behind quarter " + i, x.who(0, 1), stayed[i]);
            due("who(1, 1): out, none", x.who(1, 1), 0);
        }
        planAll(x, "1111");
        x.pass(400);
        due("who(0, 1): he stayed on all the time", x.who(0, 1), 400);
    }

    private static void chairsThen() {
        DUE.says("or a HOUSE with fewer GUESTS than chairs then");
        for (int chairs = 1; chairs <= 4; chairs++) {
            OwnedByGuests x = Due.of("chairs " + chairs + ";house h 0 0 0;person a;person b;person c;person d;person e;");
            planAll(x, "0000", "0000", "0000", "0000", "0000");
            x.pass(1);
            for (int p = 0; p < 5; p++) {
                due("who(" + p + ", 0) with chairs " + chairs, x.who(p, 0), p < chairs ? 0 : NONE);
            }
            due("house(0, 3) with chairs " + chairs, x.house(0, 3), chairs);
            // whose it is sits on none of them
            x = Due.of("chairs " + chairs + ";house h 0 0 0;person a;person b;person o of h;person d;person e;");
            planAll(x, "0000", "0000", "0000", "0000", "0000");
            x.pass(1);
            int[] guests = {0, 1, 3, 4};
            for (int i = 0; i < guests.length; i++) {
                due("who(" + guests[i] + ", 0) beside whose it is", x.who(guests[i], 0), i < chairs ? 0 : NONE);
            }
            due("who(2, 0)", x.who(2, 0), 0);
        }
        // who left gave his chair free, also to a lesser number; who found none finds one when it is free
        OwnedByGuests x = Due.of("chairs 1;house h 0 0 0;person a;person b;");
        planAll(x, "o000", "0oo0");
        int[] first = {-1, 0, 0, 0};
        int[] second = {0, -1, -1, -1};
        for (int i = 0; i < 4; i++) {
            x.pass(1);
            due("who(0, 0) behind quarter " + i, x.who(0, 0), first[i]);
            due("who(1, 0) behind quarter " + i, x.who(1, 0), second[i]);
        }
    }

    private static void letIn() {
        DUE.says("and who HAS it then (if somebody does) lets them in");
        String text = "chairs 4;house h 0 0 0;person o of h;person y;person z;";
        for (int bits = 0; bits < 32; bits++) {
            OwnedByGuests x = Due.of(text + "after 0;");
            x.lets(0, bits);
            planAll(x, "0000", "0000", "0000");
            x.pass(1);
            due("who(1, 0), lets " + bits, x.who(1, 0), (bits & 2) != 0 ? 0 : NONE);
            due("who(2, 0), lets " + bits, x.who(2, 0), (bits & 4) != 0 ? 0 : NONE);
            due("who(0, 0), lets " + bits, x.who(0, 0), 0);
        }
        // nobody has it: whoever comes is let in, though o lets nobody in
        OwnedByGuests x = Due.of(text);
        x.lets(0, 0);
        planAll(x, "oooo", "0000", "oooo");
        x.pass(1);
        due("who(1, 0)", x.who(1, 0), 0);
        // y has it then, who came in the same quarter: he lets z in or doesn't
        for (int bits = 0; bits < 2; bits++) {
            x = Due.of(text);
            x.lets(0, 2);
            x.lets(1, bits == 1 ? 4 : 27);
            planAll(x, "0000", "0000", "0000");
            x.pass(1);
            due("who(2, 0): y lets him in: " + bits, x.who(2, 0), bits == 1 ? 0 : NONE);
        }
        // y counts no more: o has it, and he asks his own lets
        x = Due.of(text + "after 1;");
        x.lets(0, 2);
        planAll(x, "0000", "0000", "o000");
        x.pass(2);
        due("who(2, 0)", x.who(2, 0), NONE);
        due("house(0, 0)", x.house(0, 0), 0);
        // who is in already isn't asked for again
        x = Due.of(text);
        planAll(x, "0000", "0000", "oooo");
        x.pass(1);
        x.lets(0, 0);
        x.lets(1, 0);
        x.pass(3);
        due("who(1, 0) stays", x.who(1, 0), 0);
        due("who(1, 1)", x.who(1, 1), 3);
    }

    private static void ownHouse() {
        DUE.says("if it is OUT; or their own HOUSE;");
        OwnedByGuests x = Due.of("chairs 1;house h 0 0 0;person y;person o of h;");
        x.lets(0, 0);
        x.lets(1, 0);
        planAll(x, "0000", "o00o");
        x.pass(1);
        due("who(0, 0): nobody had it", x.who(0, 0), 0);
        x.pass(1);
        due("who(1, 0): at home, though no chair is free and y lets nobody in", x.who(1, 0), 0);
        due("who(1, 1)", x.who(1, 1), 0);
        due("house(0, 0): y has it", x.house(0, 0), 0);
        x.pass(2);
        due("who(1, 0): out is always let", x.who(1, 0), NONE);
    }

    private static void elseOut() {
        DUE.says("else they are OUT.");
        OwnedByGuests x = Due.of("chairs 1;house h 0 9 100;house k 0 9 100;person o of h;person y of k;");
        x.lets(0, 0);
        planAll(x, "0000", "1011");
        x.pass(1);
        due("who(1, 0): at home", x.who(1, 0), 1);
        x.pass(1);
        due("who(1, 0): he left and isn't let in", x.who(1, 0), NONE);
        due("who(1, 1)", x.who(1, 1), 0);
        due("who(1, 2)", x.who(1, 2), 0);
        due("house(1, 0)", x.house(1, 0), NONE);
        x.pass(1);
        due("who(1, 0): he comes home again", x.who(1, 0), 1);
        due("who(1, 1)", x.who(1, 1), 0);
    }

    private static void gainIsCut() {
        DUE.says("if he HAS a HOUSE: WORTH times STATE over 100 (cut)");
        int[][] want = {{20, 100, 20}, {20, 99, 19}, {20, 5, 1}, {20, 4, 0}, {1, 100, 1}, {1, 99, 0}, {0, 100, 0},
            {20, 0, 0}, {7, 99, 6}, {19, 53, 10}};
        for (int[] row : want) {
            OwnedByGuests x = Due.of("take 0;house h 9 " + row[0] + " " + row[1] + ";person o of h;");
            x.pass(1);
            due("who(0, 2) of worth " + row[0] + " and state " + row[1], x.who(0, 2), row[2]);
            due("house(0, 1): nothing is taken", x.house(0, 1), 9);
        }
        // whose it is has nothing while a guest has it
        OwnedByGuests x = Due.of("house h 9 10 100;person o of h;person z;");
        planAll(x, "0000", "0000");
        x.pass(1);
        due("who(0, 2)", x.who(0, 2), 0);
        due("who(1, 2)", x.who(1, 2), 11);
    }

    private static void gainOfTheStore() {
        DUE.says("and what he takes: take units, or as many as its STORE has");
        for (int take = 0; take <= 9; take++) {
            OwnedByGuests x = Due.of("take " + take + ";house h 10 0 0;person o of h;");
            int store = 10;
            for (int i = 0; i < 4; i++) {
                int taken = Math.min(take, store);
                store -= taken;
                x.pass(1);
                due("who(0, 2), take " + take, x.who(0, 2), taken);
                due("house(0, 1), take " + take, x.house(0, 1), store);
            }
            due("who(0, 3), take " + take, x.who(0, 3), 10 - store);
        }
    }

    private static void gainOfTies() {
        DUE.says("in any HOUSE, besides, his ties to all others in it.");
        OwnedByGuests x = Due.of("chairs 4;after 0;house h 0 0 0;person a;person b;person c;person d;"
            + "tie a b 20;tie a c 0;tie a d 14;tie b a 7;tie c b 12;");
        planAll(x, "0000", "0000", "0000", "oooo");
        x.pass(1);
        // nobody has it, and all the same they have their ties
        due("house(0, 0)", x.house(0, 0), NONE);
        int[] want = {0, -3, 2, 0};
        for (int p = 0; p < 4; p++) {
            due("who(" + p + ", 2)", x.who(p, 2), want[p]);
        }
        planAll(x, "oooo", "oooo", "0000", "oooo");
        x.pass(1);
        for (int p = 0; p < 4; p++) {
            due("who(" + p + ", 2): out, or alone", x.who(p, 2), 0);
        }
        due("who(1, 3) may be below 0", x.who(1, 3), -3);
        // the greatest and the least that one can have: 20 and 9 and four ties of 10; four of -10
        x = Due.of("chairs 4;take 9;house h 9 20 100;person a;person b;person c;person d;person e of h;"
            + "tie a b 20;tie a c 20;tie a d 20;tie a e 20;tie e a 0;tie e b 0;tie e c 0;tie e d 0;");
        planAll(x, "0000", "0000", "0000", "0000", "0000");
        x.pass(1);
        due("who(0, 2)", x.who(0, 2), 69);
        due("who(4, 2)", x.who(4, 2), -40);
    }

    private static void storeAndState() {
        DUE.says("STATE is wear less (0 at least), if a GUEST HAS the HOUSE, mend more (100 at most), if whose it is HAS it.");
        int[][] worn = {{100, 20, 80}, {20, 20, 0}, {19, 20, 0}, {0, 20, 0}, {1, 2, 0}, {50, 0, 50}, {3, 2, 1}};
        for (int[] row : worn) {
            OwnedByGuests x = Due.of("mend 20;wear " + row[1] + ";house h 0 9 " + row[0] + ";person o of h;person z;");
            planAll(x, "0000", "0000");
            x.pass(1);
            due("house(0, 2) of " + row[0] + " with wear " + row[1], x.house(0, 2), row[2]);
        }
        int[][] mended = {{0, 20, 20}, {80, 20, 100}, {81, 20, 100}, {100, 20, 100}, {99, 1, 100}, {50, 0, 50}};
        for (int[] row : mended) {
            OwnedByGuests x = Due.of("wear 20;mend " + row[1] + ";house h 0 9 " + row[0] + ";person o of h;");
            x.pass(1);
            due("house(0, 2) of " + row[0] + " with mend " + row[1], x.house(0, 2), row[2]);
        }
        DUE.says("What is taken leaves the STORE");
        // nobody has it: neither store nor state change
        OwnedByGuests x = Due.of("after 0;wear 20;mend 20;take 9;house h 50 9 50;house free 50 9 50;person o of h;person z;");
        planAll(x, "oooo", "1111");
        x.pass(4);
        for (int h = 0; h < 2; h++) {
            due("house(" + h + ", 1)", x.house(h, 1), 50);
            due("house(" + h + ", 2)", x.house(h, 2), 50);
        }
        due("who(1, 3)", x.who(1, 3), 0);
        // the gain is of the state ahead of wear
        x = Due.of("wear 20;house h 0 10 100;person z;");
        planAll(x, "0000");
        int[] gains = {10, 8, 6, 4, 2, 0, 0};
        for (int gain : gains) {
            x.pass(1);
            due("who(0, 2)", x.who(0, 2), gain);
        }
    }

    private static void theChance() {
        DUE.says("s becomes (1103515245 times s and 12345) modulo 2147483648 each time; what is drawn of n is s over 65536"
            + " (cut), modulo n; s is 1 at first.");
        String text = "stroll 100;house a 0 0 0;house b 0 0 0;house c 0 0 0;person x;";
        int[] seeds = {-1, 0, 1, 2, 65535, 65536, 1 << 30, 2147483646, 2147483647};
        for (int seed : seeds) {
            OwnedByGuests x = Due.of(text);
            if (seed >= 0) {
                x.chance(seed);
            }
            Drawn drawn = new Drawn(seed < 0 ? 1 : seed);
            for (int i = 0; i < 30; i++) {
                x.pass(1);
                drawn.of(100);
                int place = drawn.of(4);
                due("who(0, 0) by the seed " + seed + " in quarter " + i, x.who(0, 0), place == 3 ? NONE : place);
            }
        }
    }

    // ---- promises

    private static void plans() {
        DUE.says("THE TAPE is the PLAN of a PERSON: four bytes, 48 and the HOUSE, or 111 (o) OUT: 1");
        OwnedByGuests x = Due.of("house a 0 0 0;house b 0 0 0;house c 0 0 0;house d 0 0 0;house e 0 0 0;"
            + "person x of a;person y;person z;person v;person w;");
        due("plan(4)", Due.plan(x, 4, "4o04"), 1);
        int[] want = {4, -1, 0, 4};
        for (int i = 0; i < 4; i++) {
            due("planned(4, " + i + ")", x.planned(4, i), want[i]);
            due("planned(3, " + i + ") is another's", x.planned(3, i), NONE);
            due("planned(0, " + i + ") is another's", x.planned(0, i), 0);
        }
        due("plan(4) again", Due.plan(x, 4, "oooo"), 1);
        due("planned(4, 0)", x.planned(4, 0), NONE);
        due("plan(0)", Due.plan(x, 0, "4321"), 1);
        due("planned(0, 3)", x.planned(0, 3), 1);
        due("plan(0) when only out is a place", Due.plan(Due.of("person x;"), 0, "oooo"), 1);
        due("plan(0) when there is no house", Due.plan(Due.of("person x;"), 0, "ooo0"), NONE);
    }

    private static void planOfNoSuchRow() {
        DUE.says("NONE: it is no such row; RANGE: no such PERSON.");
        String[] wrong = {"", "0", "000", "00000", "oooo ", " oooo", "2000", "0002", "/000", "000/", "O000", "000n", "000p",
            "000;", "ooo\n", "000\u0000", "00\u00300\u00b0", "o o o o", "ooo\u00ef"};
        for (String row : wrong) {
            TWINS.refusedAndEmptied("plan(1) of '" + row + "'", x -> Due.plan(x, 1, row), NONE);
        }
        // the fifth house is there, the sixth isn't
        OwnedByGuests x = Due.of("house a 0 0 0;house b 0 0 0;house c 0 0 0;house d 0 0 0;house e 0 0 0;person x;");
        due("plan(0) of 4444", Due.plan(x, 0, "4444"), 1);
        due("plan(0) of 4445", Due.plan(x, 0, "4445"), NONE);
        due("planned(0, 3)", x.planned(0, 3), 4);
        for (int person : new int[] {-1, 3, 4, 5, Integer.MAX_VALUE, Integer.MIN_VALUE}) {
            TWINS.refusedAndEmptied("plan(" + person + ") of a row", y -> y.plan(person), RANGE);
            TWINS.refusedAndEmptied("plan(" + person + ") of no row", y -> Due.plan(y, person, "x"), RANGE);
        }
    }

    private static void plannedAsked() {
        DUE.says("Where a PERSON wants to be in a quarter of the day (0 .. 3) by his PLAN (NONE: OUT); RANGE.");
        OwnedByGuests x = Due.of("house a 0 0 0;house b 0 0 0;person x of a;");
        Due.plan(x, 0, "1o01");
        due("planned(0, 0)", x.planned(0, 0), 1);
        due("planned(0, 1)", x.planned(0, 1), NONE);
        due("planned(0, 3)", x.planned(0, 3), 1);
        int[][] wrong = {{0, 4}, {0, -1}, {3, 0}, {-1, 0}, {4, 3}, {0, Integer.MAX_VALUE}, {Integer.MIN_VALUE, 0}};
        for (int[] row : wrong) {
            TWINS.refused("planned(" + row[0] + ", " + row[1] + ")", y -> y.planned(row[0], row[1]), RANGE);
        }
    }

    private static void lets() {
        DUE.says("LETS of a PERSON are these, as bits (0 .. 31): what they were; RANGE.");
        OwnedByGuests x = Due.of("person a;person b;person c;person d;person e;");
        int before = 31;
        for (int bits : new int[] {0, 31, 1, 16, 30}) {
            due("lets(4, " + bits + ")", x.lets(4, bits), before);
            before = bits;
        }
        due("lets(4, -1)", x.lets(4, -1), RANGE);
        due("lets(4, 32)", x.lets(4, 32), RANGE);
        due("lets(4, 0): what they were", x.lets(4, 0), 30);
        due("lets(3, 0): another's", x.lets(3, 0), 31);
        // bits of people that aren't there are kept too
        x = Due.of("person a;");
        due("lets(0, 30)", x.lets(0, 30), 31);
        due("lets(0, 30)", x.lets(0, 30), 30);
        int[][] wrong = {{0, -1}, {0, 32}, {2, 33}, {1, Integer.MAX_VALUE}, {1, Integer.MIN_VALUE}, {-1, 0}, {3, 0},
            {5, 31}, {Integer.MAX_VALUE, 1}};
        for (int[] row : wrong) {
            TWINS.refused("lets(" + row[0] + ", " + row[1] + ")", y -> y.lets(row[0], row[1]), RANGE);
        }
    }

    private static void chances() {
        DUE.says("THE CHANCE is a seed (0 .. 2147483647): 1; RANGE.");
        for (int seed : new int[] {-1, -2, Integer.MIN_VALUE}) {
            TWINS.refused("chance(" + seed + ")", y -> y.chance(seed), RANGE);
        }
        for (int seed : new int[] {0, 2147483647}) {
            OwnedByGuests x = Due.of("stroll 100;house a 0 0 0;person x;");
            due("chance(" + seed + ")", x.chance(seed), 1);
            Drawn drawn = new Drawn(seed);
            for (int i = 0; i < 10; i++) {
                x.pass(1);
                drawn.of(100);
                due("who(0, 0) by the seed " + seed, x.who(0, 0), drawn.of(2) == 0 ? 0 : NONE);
            }
        }
    }

    private static void passes() {
        DUE.says("So many QUARTERS (0 .. 400) pass: how many passed in all; RANGE.");
        for (int n : new int[] {-1, 401, Integer.MAX_VALUE, Integer.MIN_VALUE}) {
            TWINS.refused("pass(" + n + ")", y -> y.pass(n), RANGE);
        }
        TWINS.asks("pass(0)", y -> y.pass(0));
        OwnedByGuests x = Due.of("house h 0 10 100;person o of h;");
        due("pass(0)", x.pass(0), 0);
        due("who(0, 1)", x.who(0, 1), 0);
        due("pass(400)", x.pass(400), 400);
        due("who(0, 1)", x.who(0, 1), 400);
        due("who(0, 3)", x.who(0, 3), 4000);
        due("pass(1)", x.pass(1), 401);
        due("pass(0)", x.pass(0), 401);
        due("pass(399)", x.pass(399), 800);
    }

    private static void whoAsked() {
        DUE.says("2: GAIN in the latest QUARTER (0 ahead of any), 3: all GAIN; RANGE (-1000000).");
        OwnedByGuests x = Due.of("house h 2 10 100;person o of h;person z;tie o z 4;");
        due("who(0, 2) ahead of any", x.who(0, 2), 0);
        due("who(0, 3) ahead of any", x.who(0, 3), 0);
        planAll(x, "000o", "oo00");
        int[] gains = {11, 11, -6, 0};
        int all = 0;
        for (int i = 0; i < gains.length; i++) {
            all += gains[i];
            x.pass(1);
            due("who(0, 2) behind quarter " + i, x.who(0, 2), gains[i]);
            due("who(0, 3) behind quarter " + i, x.who(0, 3), all);
        }
        DUE.says("what 0: where he is (NONE: OUT), 1: how long he STAYED there");
        due("who(0, 0)", x.who(0, 0), NONE);
        due("who(0, 1)", x.who(0, 1), 0);
        due("who(1, 0)", x.who(1, 0), 0);
        due("who(1, 1)", x.who(1, 1), 1);
        int[][] wrong = {{0, -1}, {0, 4}, {-1, 0}, {3, 3}, {5, 0}};
        for (int[] row : wrong) {
            TWINS.refused("who(" + row[0] + ", " + row[1] + ")", y -> y.who(row[0], row[1]), -1000000);
        }
        for (int wild : WILD) {
            TWINS.refused("who(0, " + wild + ")", y -> y.who(0, wild), -1000000);
            TWINS.refused("who(" + wild + ", 0)", y -> y.who(wild, 0), -1000000);
        }
    }

    private static void houseAsked() {
        DUE.says("Of a HOUSE, what 0: who HAS it (NONE: NOBODY), 1: STORE, 2: STATE, 3: GUESTS in it; RANGE.");
        OwnedByGuests x = Due.of("house a 0 0 0;house b 9 9 9;house c 0 0 0;house d 0 0 0;house e 7 0 6;person x;");
        due("house(4, 0)", x.house(4, 0), NONE);
        due("house(4, 1)", x.house(4, 1), 7);
        due("house(4, 2)", x.house(4, 2), 6);
        due("house(4, 3)", x.house(4, 3), 0);
        due("house(5, 0)", x.house(5, 0), RANGE);
        int[][] wrong = {{0, -1}, {0, 4}, {-1, 0}, {2, 3}, {5, 0}};
        for (int[] row : wrong) {
            TWINS.refused("house(" + row[0] + ", " + row[1] + ")", y -> y.house(row[0], row[1]), RANGE);
        }
        for (int wild : WILD) {
            TWINS.refused("house(0, " + wild + ")", y -> y.house(0, wild), RANGE);
            TWINS.refused("house(" + wild + ", 0)", y -> y.house(wild, 0), RANGE);
        }
    }

    private static void wordAsked() {
        DUE.says("0 NOBODY, 1 whose it is, 2 the only GUEST that counts, 3 of some that count who STAYED longest (least),"
            + " 4 of some that STAYED alike by his number; RANGE.");
        words("", "o000 0000 0000 0000", 3, 4);
        words("", "oooo 0000 o000 oo00", 3, 3);
        words("", "oooo 0000 0000 oo00", 3, 4);
        words("", "oooo 0000 oo00 oo00", 3, 3);
        words("last;", "oooo 0000 o000 oo00", 3, 3);
        words("last;", "oooo 0000 0000 oo00", 3, 3);
        words("last;", "oooo 0000 oo00 oo00", 3, 4);
        // one or two of them count no more
        words("after 2;", "oooo 0000 o000 oo00", 3, 3);
        words("after 2;", "oooo 0000 0000 oo00", 3, 2);
        words("after 1;", "oooo 0000 o000 oo00", 3, 2);
        words("after 2;", "0000 0000 0000 0000", 3, 1);
        words("after 2;", "oooo 0000 0000 0000", 3, 0);
        words("", "0000 oooo oooo oooo", 3, 1);
        words("", "oooo oooo oooo oooo", 3, 0);
        words("", "0000 0000 oooo oooo", 3, 2);
        for (int h : new int[] {-1, 2, 3, 5, Integer.MAX_VALUE, Integer.MIN_VALUE}) {
            TWINS.refused("word(" + h + ")", y -> y.word(h), RANGE);
        }
    }

    /** Of a house of the first of four people, by their plans behind so many quarters. */
    private static void words(String law, String plans, int quarters, int want) {
        OwnedByGuests x = Due.of("chairs 4;" + law + "house h 0 0 0;person o of h;person a;person b;person c;");
        planAll(x, plans.split(" "));
        x.pass(quarters);
        due("word(0) with '" + law + "' by " + plans, x.word(0), want);
    }

    private static void keeps() {
        DUE.says("A SLOT (0 .. 2) keeps all that QUARTERS change, PLANS, LETS, THE CHANCE: how many QUARTERS passed; RANGE.");
        for (int slot : new int[] {-1, 3, 4, Integer.MAX_VALUE, Integer.MIN_VALUE}) {
            TWINS.refused("keep(" + slot + ")", y -> y.keep(slot), RANGE);
        }
        OwnedByGuests x = Due.of("person x;");
        for (int slot = 0; slot < 3; slot++) {
            due("keep(" + slot + ")", x.keep(slot), slot);
            x.pass(1);
        }
        for (int slot = 2; slot >= 0; slot--) {
            due("take(" + slot + ")", x.take(slot), slot);
            due("count(1)", x.count(1), slot);
        }
        x.pass(7);
        due("keep(1) again", x.keep(1), 7);
        due("take(0) is another", x.take(0), 0);
        due("take(1) as kept last", x.take(1), 7);
    }

    private static void takes() {
        DUE.says("RANGE; STATE: it is empty.");
        for (int slot : new int[] {-1, 3, Integer.MAX_VALUE, Integer.MIN_VALUE}) {
            TWINS.refused("take(" + slot + ")", y -> y.take(slot), RANGE);
        }
        for (int slot : new int[] {1, 2}) {
            TWINS.refused("take(" + slot + ") of an empty one", y -> y.take(slot), STATE);
        }
        OwnedByGuests x = Due.of("person x;");
        x.keep(2);
        due("take(2)", x.take(2), 0);
        due("take(2) again: a slot keeps on", x.take(2), 0);
        Due.village(x, "x");
        due("take(2) behind a village with a fault", x.take(2), 0);
        Due.village(x, "person x;");
        due("take(2) behind a village", x.take(2), STATE);
    }

    private static void takesAll() {
        DUE.says("All that becomes as a SLOT keeps it: how many QUARTERS passed; RANGE; STATE: it is empty.");
        for (int slot = 0; slot < 3; slot++) {
            OwnedByGuests x = Due.of("stroll 50;chairs 4;wear 3;mend 2;house h 90 9 50;house k 90 9 50;person o of h;person z;");
            planAll(x, "0101", "10o1");
            x.lets(0, 7);
            x.lets(1, 9);
            x.chance(4242);
            x.pass(6);
            due("keep(" + slot + ")", x.keep(slot), 6);
            int[] kept = shown(x);
            x.pass(9);
            int[] later = shown(x);
            planAll(x, "oooo", "1111");
            x.lets(0, 0);
            x.lets(1, 0);
            x.chance(1);
            x.pass(3);
            due("take(" + slot + ")", x.take(slot), 6);
            same("taken", shown(x), kept);
            x.pass(9);
            same("gone on from it", shown(x), later);
        }
    }

    private static int[] shown(OwnedByGuests x) {
        int[] seen = new int[27];
        for (int i = 0; i < 8; i++) {
            seen[i] = x.who(i / 4, i % 4);
            seen[8 + i] = x.house(i / 4, i % 4);
            seen[16 + i] = x.planned(i / 4, i % 4);
        }
        for (int p = 0; p < 2; p++) {
            seen[24 + p] = x.lets(p, 0);
            x.lets(p, seen[24 + p]);
        }
        seen[26] = x.count(1);
        return seen;
    }

    private static void same(String what, int[] got, int[] want) {
        for (int i = 0; i < want.length; i++) {
            due(what + " [" + i + "]", got[i], want[i]);
        }
    }
}
