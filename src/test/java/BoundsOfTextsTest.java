/** Terms I, promises 1 to 7 and 36: a test for each sentence that names a boundary. */
public final class BoundsOfTextsTest {
    private static final Due DUE = new Due();
    private static final Twins TWINS = new Twins(DUE);
    private static final int NONE = OwnedByGuests.NONE;
    private static final int RANGE = OwnedByGuests.RANGE;
    private static final int FULL = OwnedByGuests.FULL;
    private static final int STATE = OwnedByGuests.STATE;
    private static final String HOUSES = "house a 1 1 1;house b 1 1 1;house c 1 1 1;house d 1 1 1;house e 1 1 1;";
    private static final String PEOPLE = "person a;person b;person c;person d;person e;";
    private static final String[] RULES = {"chairs", "after", "wear", "mend", "take", "stroll"};
    private static final int[] LEAST = {1, 0, 0, 0, 0, 0};
    private static final int[] MOST = {4, 28, 20, 20, 9, 100};
    private static final int[] UNTOLD = {2, 12, 2, 1, 1, 0};

    public static void main(String[] args) {
        constants();
        lastCallOfAnObject();
        nothingTold();
        nothingToldOfDays();
        highestByteFirst();
        tapeOfNineHundred();
        fullTapeStays();
        endOfTheTape();
        firstBytesAlone();
        readersEmpty();
        othersEmptyNot();
        blanks();
        words();
        numbers();
        clausesAndNone();
        housesBounds();
        mostHouses();
        mostPeople();
        strangers();
        names();
        ties();
        work();
        rules();
        toldAhead();
        places();
        firstFault();
        leastKind();
        syntaxFaults();
        rangeFaults();
        twiceFaults();
        roomFaults();
        unknownFaults();
        villageWithAFault();
        villageWithout();
        faultAsked();
        toldAsked();
        tieAsked();
        countAsked();
        DUE.close();
    }

    private static void due(String call, int got, int want) {
        DUE.due(call, got, want);
    }

    private static void good(String text, int clauses) {
        OwnedByGuests x = new OwnedByGuests();
        due("village() of '" + text + "'", Due.village(x, text), clauses);
        due("fault(0) of '" + text + "'", x.fault(0), 0);
        due("fault(1) of '" + text + "'", x.fault(1), NONE);
        due("count(0) of '" + text + "'", x.count(0), clauses);
    }

    private static void bad(String text, int kind, int place) {
        OwnedByGuests x = new OwnedByGuests();
        due("village() of '" + text + "'", Due.village(x, text), NONE);
        due("fault(0) of '" + text + "'", x.fault(0), kind);
        due("fault(1) of '" + text + "'", x.fault(1), place);
        due("count(0) of '" + text + "'", x.count(0), 0);
        due("count(2) of '" + text + "'", x.count(2), 0);
        due("told(0) of '" + text + "'", x.told(0), 0);
        due("told(1) of '" + text + "'", x.told(1), 0);
    }

    private static void constants() {
        DUE.says("`NONE = -1`: There is none.");
        due("NONE", NONE, -1);
        DUE.says("`RANGE = -2`: A number that can't be.");
        due("RANGE", RANGE, -2);
        DUE.says("`FULL = -3`: No room.");
        due("FULL", FULL, -3);
        DUE.says("`STATE = -4`: Not as things are.");
        due("STATE", STATE, -4);
    }

    private static void lastCallOfAnObject() {
        DUE.says("An object is used for at most 512 calls after it has been made");
        OwnedByGuests x = new OwnedByGuests();
        x.feed(0x686f7573, 0x65206820, 0x30203130, 0x20313030, 0x3b706572);
        x.feed(0x736f6e20, 0x78206f66, 0x20683b20, 0x20202020, 0x20202020);
        x.village();
        for (int i = 1; i <= 508; i++) {
            due("pass(400) as call " + (i + 3), x.pass(400), 400 * i);
        }
        due("who(0, 3) as call 512", x.who(0, 3), 508 * 400 * 10);
    }

    private static void nothingTold() {
        DUE.says("A VILLAGE of which nothing is told.");
        OwnedByGuests x = new OwnedByGuests();
        due("told(0)", x.told(0), 0);
        due("told(1)", x.told(1), 0);
        for (int i = 0; i < RULES.length; i++) {
            due("told(" + (2 + i) + ")", x.told(2 + i), UNTOLD[i]);
        }
        due("told(8)", x.told(8), 0);
        for (int what = 10; what < 70; what++) {
            due("told(" + what + ")", x.told(what), NONE);
        }
        due("tie(0, 1)", x.tie(0, 1), -1000);
        due("plan(0)", Due.plan(x, 0, "oooo"), RANGE);
        due("planned(0, 0)", x.planned(0, 0), RANGE);
        due("lets(0, 0)", x.lets(0, 0), RANGE);
        due("who(0, 0)", x.who(0, 0), -1000000);
        due("house(0, 0)", x.house(0, 0), RANGE);
        due("word(0)", x.word(0), RANGE);
        due("take(0)", x.take(0), STATE);
        due("keep(0)", x.keep(0), 0);
        due("chance(5)", x.chance(5), 1);
        due("pass(3)", x.pass(3), 3);
        due("take(0)", x.take(0), 0);
        due("count(1)", x.count(1), 0);
    }

    private static void nothingToldOfDays() {
        DUE.says("A VILLAGE of which nothing is told.");
        OwnedByGuests x = new OwnedByGuests();
        due("sum(0)", x.sum(0), -1000000);
        due("best(0, 4)", x.best(0, 4), -1000000);
        // one row, of no wishes, by which nobody would have more
        due("rests()", x.rests(), 1);
        due("rest(0, 0)", x.rest(0, 0), RANGE);
        due("settle()", x.settle(), 1);
        due("longer(0, 1, 0)", x.longer(0, 1, 0), RANGE);
        due("guard(0, 1)", x.guard(0, 1), RANGE);
        due("rings(0)", x.rings(0), 0);
        due("rings(1)", x.rings(1), NONE);
        due("when(0)", x.when(0), RANGE);
        due("bound(0, 0)", x.bound(0, 0), RANGE);
        due("law(true, 28, 20, 0)", x.law(true, 28, 20, 0), 0);
        due("law(true, 28, 20, 1)", x.law(true, 28, 20, 1), 0);
        due("bestLaw(20)", x.bestLaw(20), 0);
        due("turned(0, 0)", x.turned(0, 0), RANGE);
        due("feast()", x.feast(), 1);
        due("whom(0)", x.whom(0), RANGE);
        due("edge(0, 1)", x.edge(0, 1), RANGE);
        due("show(0)", x.show(0), RANGE);
        due("book()", x.book(), 0);
        due("fault(0)", x.fault(0), 0);
        due("fault(1)", x.fault(1), NONE);
        due("village()", x.village(), 0);
    }

    private static void highestByteFirst() {
        DUE.says("Twenty bytes come behind THE TAPE, the highest of each int first: how many it has");
        OwnedByGuests x = new OwnedByGuests();
        // "last" ";tak" "e 7;" "mend" " 3; "
        due("feed(..)", x.feed(0x6c617374, 0x3b74616b, 0x6520373b, 0x6d656e64, 0x20333b20), 20);
        due("feed(..)", x.feed(0x20202020, 0x20202020, 0x20202020, 0x20202020, 0x20202020), 40);
        due("count(2)", x.count(2), 40);
        due("village()", x.village(), 3);
        due("told(8)", x.told(8), 1);
        due("told(6)", x.told(6), 7);
        due("told(5)", x.told(5), 3);
        // the bytes 255, 128 and 0 are none of a text, wherever they stand in an int
        int[][] fours = {{0xff202020, 0}, {0x20ff2020, 1}, {0x2020ff20, 2}, {0x202020ff, 3}, {0x80202020, 0},
            {0x20202000, 3}, {Integer.MIN_VALUE, 0}, {-1, 0}};
        for (int[] four : fours) {
            x.feed(0x20202020, 0x20202020, four[0], 0x20202020, 0x20202020);
            due("village() with " + four[0], x.village(), NONE);
            due("fault(0) with " + four[0], x.fault(0), 1);
            due("fault(1) with " + four[0], x.fault(1), 8 + four[1]);
        }
    }

    private static void tapeOfNineHundred() {
        DUE.says("THE TAPE has at most 900 bytes");
        OwnedByGuests x = new OwnedByGuests();
        String text = " ".repeat(895) + "last;";
        due("village() whose last byte is the 900th", Due.village(x, text), 1);
        due("told(8)", x.told(8), 1);
        Due.put(x, " ".repeat(896) + "last");
        due("count(2) of 900", x.count(2), 900);
        due("village() that has no room for its end", x.village(), NONE);
        due("fault(0)", x.fault(0), 1);
        due("fault(1)", x.fault(1), 900);
        due("book() whose last byte is the 900th", Due.book(x, "0 0 5;".repeat(150)), -1);
        Due.village(x, "person x;");
        due("book() whose last byte is the 900th", Due.book(x, "\n".repeat(888) + "0 0 5;1 0 5;"), 2);
        Due.put(x, "o".repeat(900));
        due("plan(0) of 900 bytes", x.plan(0), NONE);
        Due.put(x, "0".repeat(900));
        due("feast() of 900 bytes", x.feast(), NONE);
    }

    private static void fullTapeStays() {
        DUE.says("FULL when there would be more than 900.");
        OwnedByGuests x = new OwnedByGuests();
        for (int i = 1; i <= 45; i++) {
            due("feed " + i, x.feed(0x20202020, 0x20202020, 0x20202020, 0x20202020, 0x6c617374), 20 * i);
            if (i < 45) {
                x.end(20 * i - 4);
                due("feed behind the cut", x.feed(0x20202020, 0x20202020, 0x20202020, 0x20202020, 0x20202020), 20 * i + 16);
                x.end(20 * i);
            }
        }
        for (int i = 0; i < 3; i++) {
            due("feed when 900 are there", x.feed(-1, -1, -1, -1, -1), FULL);
        }
        due("count(2)", x.count(2), 900);
        due("end(899)", x.end(899), 899);
        due("feed when 899 are there", x.feed(-1, -1, -1, -1, -1), FULL);
        due("count(2)", x.count(2), 899);
        due("village() of what was there", x.village(), NONE);
        due("fault(1): 'las', ahead of what was refused", x.fault(1), 896);
        due("feed when it is empty again", x.feed(0, 0, 0, 0, 0), 20);
        TWINS.refused("feed(..) when there would be 901", y -> {
            fill(y, 881);
            int answer = y.feed(0, 0, 0, 0, 0);
            due("count(2) of 881", y.count(2), 881);
            Due.put(y, "1o01");
            return answer;
        }, FULL);
        x = new OwnedByGuests();
        fill(x, 880);
        due("feed when there will be 900", x.feed(0, 0, 0, 0, 0), 900);
    }

    private static void fill(OwnedByGuests x, int bytes) {
        Due.put(x, " ".repeat(bytes));
    }

    private static void endOfTheTape() {
        DUE.says("NONE when it has not so many, or n is below 0.");
        int[] wrong = {5, 6, 20, 900, 901, Integer.MAX_VALUE, -1, -5, Integer.MIN_VALUE};
        for (int n : wrong) {
            TWINS.refused("end(" + n + ") of four bytes", x -> x.end(n), NONE);
        }
        TWINS.asks("end(4) of four bytes", x -> x.end(4));
        OwnedByGuests x = new OwnedByGuests();
        due("end(0) of none", x.end(0), 0);
        due("end(1) of none", x.end(1), NONE);
        due("end(-1) of none", x.end(-1), NONE);
        fill(x, 900);
        due("end(901)", x.end(901), NONE);
        due("count(2)", x.count(2), 900);
        due("end(900)", x.end(900), 900);
        due("count(2)", x.count(2), 900);
    }

    private static void firstBytesAlone() {
        DUE.says("THE TAPE has its first n bytes alone: n");
        OwnedByGuests x = new OwnedByGuests();
        Due.put(x, "last;chairs 9;");
        due("end(5)", x.end(5), 5);
        due("count(2)", x.count(2), 5);
        due("end(6): what was cut is gone", x.end(6), NONE);
        due("village()", x.village(), 1);
        // "take 5" is cut to "take " and "3;" comes behind that
        Due.put(x, "take 5;");
        x.end(5);
        x.feed(0x333b2020, 0x20202020, 0x20202020, 0x20202020, 0x20202020);
        due("count(2)", x.count(2), 25);
        due("village()", x.village(), 1);
        due("told(6)", x.told(6), 3);
        Due.put(x, "last;last;");
        due("end(0)", x.end(0), 0);
        due("village() of none", x.village(), 0);
    }

    private static void readersEmpty() {
        DUE.says("each call that reads it empties it, whatever it tells.");
        String[] villages = {"", "last;", "last", "chairs 9;", "last;last;", HOUSES + "house f 1 1 1;", "work x 1;"};
        for (String text : villages) {
            OwnedByGuests x = new OwnedByGuests();
            Due.village(x, text);
            due("count(2) behind village() of '" + text + "'", x.count(2), 0);
        }
        String[] plans = {"", "oooo", "0000", "1111", "ooo", "ooooo"};
        for (String row : plans) {
            for (int person = -1; person < 2; person++) {
                OwnedByGuests x = Due.of("house h 1 1 1;person x;");
                Due.plan(x, person, row);
                due("count(2) behind plan(" + person + ") of '" + row + "'", x.count(2), 0);
            }
        }
        String[] feasts = {"", "01", "10", "00", "0", "012"};
        for (String row : feasts) {
            OwnedByGuests x = Due.of("person x;person y;");
            Due.feast(x, row);
            due("count(2) behind feast() of '" + row + "'", x.count(2), 0);
        }
        String[] books = {"", "0 0 5;", "0 0 0;", "0 3 5;", "0 0", "x"};
        for (String text : books) {
            OwnedByGuests x = Due.of("house h 1 1 1;person y of h;person x;");
            Due.book(x, text);
            due("count(2) behind book() of '" + text + "'", x.count(2), 0);
        }
    }

    /** Every other call leaves the tape, and a village is still read from it behind them all. */
    private static void othersEmptyNot() {
        DUE.says("each call that reads it empties it, whatever it tells.");
        OwnedByGuests x = Due.of(Twins.TEXT);
        Due.put(x, "take 8;");
        x.end(7);
        x.fault(0);
        x.told(0);
        x.tie(0, 1);
        x.planned(0, 0);
        x.lets(0, 1);
        x.chance(4);
        x.pass(2);
        x.who(0, 0);
        x.house(0, 0);
        x.word(0);
        x.keep(0);
        x.take(0);
        x.take(1);
        x.sum(0);
        x.best(0, 0);
        x.rests();
        x.rest(0, 0);
        x.settle();
        x.longer(0, 1, 0);
        x.guard(0, 1);
        x.rings(0);
        x.when(0);
        x.bound(0, 0);
        x.law(true, 1, 1, 0);
        x.bestLaw(1);
        x.turned(0, 0);
        x.whom(0);
        x.edge(0, 1);
        x.show(0);
        x.count(0);
        due("count(2)", x.count(2), 7);
        due("village()", x.village(), 1);
        due("told(6)", x.told(6), 8);
    }

    private static void blanks() {
        DUE.says("TOKENS with any blanks (32, 10) between");
        good("house a1 2 3;", 1);
        good("house\na\n1\n2\n3\n;\n", 1);
        good("  \n\nhouse  a \n 1 \n\n2   3  ; \n ", 1);
        good("take 1;wear 1;last;", 3);
        good("", 0);
        good(" ", 0);
        good("\n", 0);
        good(" ".repeat(900), 0);
        // of all other bytes none is a blank
        for (int sign = 0; sign < 256; sign++) {
            boolean isBlank = sign == 32 || sign == 10;
            boolean isToken = sign >= 'a' && sign <= 'z' || sign >= '0' && sign <= '9' || sign == ';';
            if (!isBlank && !isToken) {
                bad("last " + (char) sign + ";", 1, 5);
            }
        }
    }

    private static void words() {
        DUE.says("WORDS (small letters, as many as there are, 8 at most)");
        good("person abcdefgh;", 1);
        bad("person abcdefghi;", 1, 7);
        bad("person " + "a".repeat(800) + ";", 1, 7);
        good("person az;person za;person z;person a;", 4);
        bad("person `;", 1, 7);
        bad("person {;", 1, 7);
        bad("person A;", 1, 7);
        bad("person Z;", 1, 7);
        bad("person aB;", 1, 8);
        // as many as there are: one word, not two
        bad("personx;", 1, 0);
        bad("housea 1 1 1;", 1, 0);
        bad("lastlast;", 1, 0);
        bad("house a 1 1 1;person x ofa;", 1, 23);
        bad("house a 1 1 1;person x of a b;", 1, 28);
        bad("abcdefghi;", 1, 0);
        // a clause's word is that word from its first letter to its last
        String[] clauses = {"house a 1 1 1;", "person x;", "tie x y 1;", "work x 1;", "chairs 1;", "after 1;", "wear 1;",
            "mend 1;", "take 1;", "stroll 1;", "last;"};
        for (String clause : clauses) {
            String ahead = "person x;person y;".repeat(clause.startsWith("tie") || clause.startsWith("work") ? 1 : 0);
            int length = clause.indexOf(clause.startsWith("last") ? ";" : " ");
            good(ahead + clause, ahead.isEmpty() ? 1 : 3);
            bad(ahead + "z" + clause.substring(1), 1, ahead.length());
            bad(ahead + clause.substring(1), 1, ahead.length());
            bad(ahead + clause.substring(0, length - 1) + "z" + clause.substring(length), 1, ahead.length());
            bad(ahead + clause.substring(0, length - 1) + clause.substring(length), 1, ahead.length());
            bad(ahead + clause.substring(0, length) + "s" + clause.substring(length), 1, ahead.length());
        }
        // a name's last letter tells too
        good("person abcdefgh;person abcdefgi;person bbcdefgh;", 3);
        bad("person abcdefgh;person abcdefgh;", 3, 23);
    }

    private static void numbers() {
        DUE.says("N (digits, as many as there are, 3 at most)");
        good("after 000;", 1);
        good("after 028;", 1);
        good("house a 099 020 100;", 1);
        bad("after 0000;", 1, 6);
        bad("after 0028;", 1, 6);
        bad("after 1000;", 1, 6);
        bad("after " + "9".repeat(800) + ";", 1, 6);
        bad("after 999;", 2, 6);
        // as many as there are: 123 is one number
        bad("house a 123;", 2, 8);
        bad("house a 12 3;", 1, 12);
        bad("after /;", 1, 6);
        bad("after :;", 1, 6);
        bad("after -1;", 1, 6);
        bad("after 1a;", 1, 7);
        OwnedByGuests x = Due.of("house a 009 008 007;");
        due("told(10)", x.told(10), 9);
        due("told(20)", x.told(20), 8);
        due("told(30)", x.told(30), 7);
    }

    private static void clausesAndNone() {
        DUE.says("A VILLAGE is a text = {clause \";\"}.");
        good("", 0);
        good("last;", 1);
        bad("last", 1, 4);
        bad(";", 1, 0);
        bad("last;;", 1, 5);
        bad(";last;", 1, 0);
        bad("last last;", 1, 5);
        // as many clauses as a tape has room for: 5 and 5, twenty ties, five works, seven others
        StringBuilder text = new StringBuilder(HOUSES.replace(" 1 1 1", "1 1 1") + PEOPLE);
        for (char p = 'a'; p <= 'e'; p++) {
            for (char q = 'a'; q <= 'e'; q++) {
                if (p != q) {
                    text.append("tie ").append(p).append(' ').append(q).append("9;");
                }
            }
            text.append("work ").append(p).append("1;");
        }
        for (int i = 0; i < RULES.length; i++) {
            text.append(RULES[i]).append("1;");
        }
        text.append("last;");
        due("bytes of the longest village", text.length() <= 900 ? 1 : 0, 1);
        good(text.toString(), 42);
    }

    private static void housesBounds() {
        DUE.says("house: a name, its STORE 0 .. 99, WORTH 0 .. 20, STATE 0 .. 100; at most 5.");
        OwnedByGuests x = Due.of("house a 0 0 0;house b 99 20 100;");
        int[][] want = {{10, 0}, {11, 99}, {20, 0}, {21, 20}, {30, 0}, {31, 100}, {40, -1}, {41, -1}};
        for (int[] row : want) {
            due("told(" + row[0] + ")", x.told(row[0]), row[1]);
        }
        due("house(0, 1)", x.house(0, 1), 0);
        due("house(1, 1)", x.house(1, 1), 99);
        due("house(0, 2)", x.house(0, 2), 0);
        due("house(1, 2)", x.house(1, 2), 100);
        bad("house a 100 0 0;", 2, 8);
        bad("house a 0 21 0;", 2, 10);
        bad("house a 0 0 101;", 2, 12);
        bad("house a 999 0 0;", 2, 8);
        bad("house a 0 999 0;", 2, 10);
        bad("house a 0 0 999;", 2, 12);
    }

    private static void mostHouses() {
        DUE.says("4 ROOM: a HOUSE, a PERSON too many, at its first WORD.");
        OwnedByGuests x = Due.of(HOUSES);
        due("told(0)", x.told(0), 5);
        due("told(14)", x.told(14), 1);
        due("told(15)", x.told(15), NONE);
        due("house(4, 1)", x.house(4, 1), 1);
        due("house(5, 1)", x.house(5, 1), RANGE);
        bad(HOUSES + "house f 1 1 1;", 4, 70);
        bad(HOUSES + "last; house f 1 1 1;", 4, 76);
        bad(HOUSES + "house", 4, 70);
        good(HOUSES + PEOPLE, 10);
    }

    private static void mostPeople() {
        DUE.says("person: a name, whose house that one is; without: a STRANGER; at most 5.");
        OwnedByGuests x = Due.of(PEOPLE);
        due("told(1)", x.told(1), 5);
        due("told(54)", x.told(54), NONE);
        due("who(4, 1)", x.who(4, 1), 0);
        due("who(5, 1)", x.who(5, 1), -1000000);
        bad(PEOPLE + "person f;", 4, 45);
        bad(PEOPLE + "\n\nperson", 4, 47);
        bad("house h 1 1 1;" + PEOPLE + "person f of h;", 4, 59);
    }

    private static void strangers() {
        DUE.says("person: a name, whose house that one is; without: a STRANGER; at most 5.");
        OwnedByGuests x = Due.of("house h 1 1 1;person x;person y of h;");
        due("told(50)", x.told(50), NONE);
        due("told(51)", x.told(51), 0);
        due("told(40)", x.told(40), 1);
        due("who(0, 0)", x.who(0, 0), NONE);
        due("who(1, 0)", x.who(1, 0), 0);
    }

    private static void names() {
        DUE.says("Both are numbered from 0 as they come; names of one kind are unlike.");
        OwnedByGuests x = Due.of("house b 1 0 0;person z of b;house a 2 0 0;person a of a;person b;");
        due("told(10)", x.told(10), 1);
        due("told(11)", x.told(11), 2);
        due("told(50)", x.told(50), 0);
        due("told(51)", x.told(51), 1);
        due("told(52)", x.told(52), NONE);
        bad("house a 1 1 1;house a 1 1 1;", 3, 20);
        bad("person a;person b;person a of a;", 3, 25);
        good("house a 1 1 1;person a of a;house b 1 1 1;person b of b;", 4);
        good("person of;person person;person house;person last;person tie;", 5);
        good("person a;person aa;person aaa;person aaaa;person aaaaaaaa;", 5);
        good("person b;person bb;person ab;person ba;person bbb;", 5);
        good("person z;person zz;person az;person za;person bz;", 5);
        good("person zz;person aza;person azb;person bah;person bag;", 5);
        good("house of 1 1 1;person of of of;", 2);
    }

    private static void ties() {
        DUE.says("of being in a HOUSE with the second (another PERSON): N less 10, 0 .. 20.");
        OwnedByGuests x = Due.of("person x;person y;person z;tie x y 0;tie y x 20;tie x z 10;");
        due("tie(0, 1)", x.tie(0, 1), -10);
        due("tie(1, 0)", x.tie(1, 0), 10);
        due("tie(0, 2)", x.tie(0, 2), 0);
        due("tie(2, 0) untold", x.tie(2, 0), 0);
        bad("person x;person y;tie x y 21;", 2, 26);
        bad("person x;person y;tie x y 999;", 2, 26);
        bad("person x;tie x x 5;", 3, 15);
    }

    private static void work() {
        DUE.says("work: in which quarters of a day, as bits 1 .. 15, a PERSON must be OUT.");
        OwnedByGuests x = Due.of("person x;person y;work y 1;work x 15;");
        due("told(60)", x.told(60), 15);
        due("told(61)", x.told(61), 1);
        bad("person x;work x 0;", 2, 16);
        bad("person x;work x 16;", 2, 16);
        for (int bits = 1; bits <= 15; bits++) {
            x = Due.of("house h 0 0 0;person x of h;work x " + bits + ";");
            for (int quarter = 0; quarter < 8; quarter++) {
                x.pass(1);
                boolean isOut = (bits >> quarter % 4) % 2 == 1;
                due("work " + bits + " in quarter " + quarter, x.who(0, 0), isOut ? NONE : 0);
            }
        }
    }

    private static void rules() {
        DUE.says("Bounds (and what isn't told): chairs 1 .. 4 (2), after 0 .. 28 (12), wear 0 .. 20 (2), mend 0 .. 20 (1),"
            + " take 0 .. 9 (1), stroll 0 .. 100 (0).");
        for (int i = 0; i < RULES.length; i++) {
            int at = RULES[i].length() + 1;
            due(RULES[i] + ", least", Due.of(RULES[i] + " " + LEAST[i] + ";").told(2 + i), LEAST[i]);
            due(RULES[i] + ", most", Due.of(RULES[i] + " " + MOST[i] + ";").told(2 + i), MOST[i]);
            due(RULES[i] + " untold", Due.of("last;").told(2 + i), UNTOLD[i]);
            bad(RULES[i] + " " + (MOST[i] + 1) + ";", 2, at);
            bad(RULES[i] + " 999;", 2, at);
            bad(RULES[i] + ";", 1, at - 1);
            bad(RULES[i] + " x;", 1, at);
            // each alone: the others are as untold
            OwnedByGuests x = Due.of(RULES[i] + " " + MOST[i] + ";");
            for (int k = 0; k < RULES.length; k++) {
                if (k != i) {
                    due(RULES[k] + " beside " + RULES[i], x.told(2 + k), UNTOLD[k]);
                }
            }
            due("last beside " + RULES[i], x.told(8), 0);
        }
        bad("chairs 0;", 2, 7);
    }

    private static void toldAhead() {
        DUE.says("HOUSES, PEOPLE that are named are told ahead.");
        bad("person x of a;house a 1 1 1;", 5, 12);
        bad("tie x y 1;person x;person y;", 5, 4);
        bad("person x;tie x y 1;person y;", 5, 15);
        bad("work x 1;person x;", 5, 5);
        good("house a 1 1 1;last;person x of a;work x 1;person y;tie x y 1;", 6);
    }

    private static void places() {
        DUE.says("KIND and PLACE (a TOKEN's first byte; the text's length at its end)");
        bad("  guest;", 1, 2);
        bad("house\n\n  abc 1 1 1", 1, 18);
        bad("house  ", 1, 7);
        bad("house", 1, 5);
        bad("last\n\n\n", 1, 7);
        bad("house a", 1, 7);
        bad("house a 1", 1, 9);
        bad("house a 1 2", 1, 11);
        bad("house a 1 2 3", 1, 13);
        bad("person x", 1, 8);
        bad("person", 1, 6);
        bad("house a 1 1 1;person x of", 1, 25);
        bad("house a 1 1 1;person x of a", 1, 27);
        bad("person x;tie", 1, 12);
        bad("person x;tie x", 1, 14);
        bad("person x;person y;tie x y", 1, 25);
        bad("person x;person y;tie x y 3", 1, 27);
        bad("person x;work", 1, 13);
        bad("person x;work x", 1, 15);
        bad("person x;work x 3", 1, 17);
        bad("after", 1, 5);
        bad("after 3", 1, 7);
        bad("last", 1, 4);
    }

    private static void firstFault() {
        DUE.says("the first come to as TOKENS are read one by one");
        bad("house a 100 21 101", 2, 8);
        bad("house a 1 21 101", 2, 10);
        bad("house a 1 1 101 x", 2, 12);
        bad("chairs 5;guest", 2, 7);
        bad("guest;chairs 5;", 1, 0);
        bad("person x;person x of b;", 3, 16);
        bad("tie x y 99;", 5, 4);
        bad("person x;tie x x 99;", 3, 15);
        bad("person x;work x 3;work x 99;", 3, 23);
        bad("last;last", 3, 5);
        bad("chairs 2;chairs 9;", 3, 9);
        bad("work x 0;", 5, 5);
        bad(HOUSES + "house a 100 1 1;", 4, 70);
        bad(PEOPLE + "person a;", 4, 45);
        bad("house a 1 1 1;house a 100 1 1;", 3, 20);
    }

    private static void leastKind() {
        DUE.says("of one TOKEN the least KIND");
        // a run that is too long is SYNTAX, though it is out of its bounds or unknown too
        bad("after 9999;", 1, 6);
        bad("house a 1000 1 1;", 1, 8);
        bad("person x;work x 0000;", 1, 16);
        bad("person x;work abcdefghi 1;", 1, 14);
        bad("person x of abcdefghi;", 1, 12);
        bad("person x;tie abcdefghi x 1;", 1, 13);
        bad("person x;tie x abcdefghi 1;", 1, 15);
        // and one word too many is SYNTAX, whatever it is called
        bad("last last;", 1, 5);
        bad("chairs 2 chairs 2;", 1, 9);
        bad(HOUSES + "last house;", 1, 75);
    }

    private static void syntaxFaults() {
        DUE.says("1 SYNTAX: a TOKEN (or byte that is none, a run that is too long) with which no text goes on.");
        String[][] begun = {{"", "W"}, {"house ", "N"}, {"house a ", "W"}, {"house a 1 ", "W"}, {"house a 1 1 ", "W"},
            {"house a 1 1 1 ", "N"}, {"house a 1 1 1 ", "W"}, {"person ", "N"}, {"person x ", "N"}, {"person x ", "W"},
            {"house a 1 1 1;person x of ", "N"}, {"house a 1 1 1;person x of a ", "W"},
            {"house a 1 1 1;person x of a ", "N"}, {"person x;tie ", "N"}, {"person x;tie x ", "N"},
            {"person x;person y;tie x y ", "W"}, {"person x;person y;tie x y 1 ", "N"},
            {"person x;person y;tie x y 1 ", "W"}, {"person x;work ", "N"}, {"person x;work x ", "W"},
            {"person x;work x 1 ", "N"}, {"person x;work x 1 ", "W"}, {"after ", "W"}, {"after 1 ", "N"},
            {"after 1 ", "W"}, {"last ", "N"}, {"last ", "W"}, {"last;", "N"}, {"last;", "W"}};
        for (String[] row : begun) {
            bad(row[0] + (row[1].equals("N") ? "1" : "zzz") + ";", 1, row[0].length());
            bad(row[0] + ".;", 1, row[0].length());
            bad(row[0] + "abcdefghi;", 1, row[0].length());
            bad(row[0] + "0001;", 1, row[0].length());
        }
        // where no clause is whole a semicolon goes on no text
        String[] cut = {"", "house", "house a", "house a 1", "house a 1 1", "person", "house a 1 1 1;person x of",
            "person x;tie", "person x;tie x", "person x;person y;tie x y", "person x;work", "person x;work x", "mend"};
        for (String text : cut) {
            bad(text + ";", 1, text.length());
        }
    }

    private static void rangeFaults() {
        DUE.says("2 RANGE: an N out of its bounds.");
        bad("last;house a 100 0 0;", 2, 13);
        bad("last;house a 99 21 0;", 2, 16);
        bad("last;house a 99 20 101;", 2, 19);
        bad("person x;person y;tie x y 021;", 2, 26);
        bad("person x;work x 000;", 2, 16);
        bad("chairs 000;", 2, 7);
    }

    private static void twiceFaults() {
        DUE.says("3 TWICE: a name that one of its kind has");
        bad("house a 1 1 1;house b 1 1 1;house a 1 1 1;", 3, 34);
        bad("person a;person b;person b;", 3, 25);
        DUE.says("a HOUSE that is somebody's (at its name behind \"of\")");
        bad("house a 1 1 1;person x of a;person y of a;", 3, 40);
        bad("house a 1 1 1;house b 1 1 1;person x of a;person y of b;person z of b", 3, 68);
        DUE.says("the second name of a tie that is its first, or for which the first's tie was told");
        bad("person x;person y;tie y y 5;", 3, 24);
        bad("person x;person y;tie x y 5;tie x y 5;", 3, 34);
        bad("person x;person y;tie x y 10;tie x y 5;", 3, 35);
        good("person x;person y;person z;tie x y 5;tie x z 5;tie y x 5;tie z y 5;tie z x 5;tie y z 5;", 9);
        bad("person x;person y;person z;tie x y 5;tie x z 5;tie z x 5;tie z y 5;tie x z 5;", 3, 73);
        DUE.says("work of a PERSON again (at the name)");
        bad("person x;person y;work x 3;work y 3;work x 4;", 3, 41);
        good("person x;person y;work x 3;work y 3;", 4);
        DUE.says("chairs, after, wear, mend, take, stroll, last again.");
        for (int i = 0; i < RULES.length; i++) {
            String once = RULES[i] + " " + UNTOLD[i] + ";";
            bad(once + "last;" + once, 3, once.length() + 5);
        }
        bad("last;take 1;last;", 3, 12);
    }

    private static void roomFaults() {
        DUE.says("4 ROOM: a HOUSE, a PERSON too many, at its first WORD.");
        bad(HOUSES + PEOPLE + " house a 1 1 1;", 4, 116);
        bad(HOUSES + PEOPLE + " person a;", 4, 116);
        bad(HOUSES + "house 1", 4, 70);
        bad(PEOPLE + "person;", 4, 45);
    }

    private static void unknownFaults() {
        DUE.says("5 UNKNOWN: a W that should be a HOUSE, a PERSON and is none.");
        bad("person x of x;", 5, 12);
        bad("person a;person x of a;", 5, 21);
        bad("house a 1 1 1;person x;tie a x 5;", 5, 27);
        bad("house a 1 1 1;person x;tie x a 5;", 5, 29);
        bad("house a 1 1 1;work a 5;", 5, 19);
        bad("house aa 1 1 1;person x of a;", 5, 27);
        bad("house a 1 1 1;person x of aa;", 5, 26);
        bad("person x;work of 5;", 5, 14);
        // though the tie that stands ahead of hers in the row of all was told
        bad(PEOPLE + "tie a e 1;tie b z 1;", 5, 61);
    }

    private static void villageWithAFault() {
        DUE.says("NONE with a FAULT (it stays).");
        String[] texts = {"guest;", "house a 1 1 1;person x of a;chairs 4;last;stroll 101;", "house a 1 1 1;house a",
            HOUSES + "house", "person x;person y;tie x z 1;", "last", "house h 1 1 1;person x of h;tie x x 1;"};
        for (String text : texts) {
            OwnedByGuests x = Twins.story();
            due("village() of '" + text + "'", Due.village(x, text), NONE);
            int kind = x.fault(0);
            int place = x.fault(1);
            TWINS.refusedAndEmptied("village() of '" + text + "' and a fault as it was", y -> {
                int answer = Due.village(y, text);
                due("its kind is the same on the twin", y.fault(0), kind);
                due("its place is the same on the twin", y.fault(1), place);
                Due.village(y, "chairs 9;");
                return answer;
            }, NONE);
        }
    }

    private static void villageWithout() {
        DUE.says("All is as at first (THE CHANCE stays), SLOTS are empty, what feast() told is gone.");
        String[] texts = {Twins.TEXT, "", "person y;person x;person z;house h 1 1 1;"};
        for (String text : texts) {
            OwnedByGuests x = Twins.story();
            x.keep(1);
            x.keep(2);
            due("village()", Due.village(x, text) >= 0 ? 1 : 0, 1);
            due("count(1)", x.count(1), 0);
            for (int slot = 0; slot < 3; slot++) {
                due("take(" + slot + ")", x.take(slot), STATE);
            }
            for (int p = 0; p < x.told(1); p++) {
                due("turned(" + p + ", 0)", x.turned(p, 0), NONE);
                due("lets(" + p + ")", x.lets(p, 31), 31);
                due("who(" + p + ", 0)", x.who(p, 0), x.told(50 + p));
                due("who(" + p + ", 1)", x.who(p, 1), 0);
                due("who(" + p + ", 2)", x.who(p, 2), 0);
                due("who(" + p + ", 3)", x.who(p, 3), 0);
                for (int i = 0; i < 4; i++) {
                    due("planned(" + p + ", " + i + ")", x.planned(p, i), x.told(50 + p));
                }
            }
            for (int h = 0; h < x.told(0); h++) {
                due("house(" + h + ", 1)", x.house(h, 1), x.told(10 + h));
                due("house(" + h + ", 2)", x.house(h, 2), x.told(30 + h));
            }
        }
        villagesInTurn();
        // by the seed 1 are drawn 16838, 5758, 10113, 17515: the second village goes on with the third
        String text = "house h 0 0 0;person o of h;stroll 100;";
        OwnedByGuests x = Due.of(text);
        x.pass(1);
        due("5758 of two", x.who(0, 0), 0);
        Due.village(x, text);
        x.pass(1);
        due("17515 of two", x.who(0, 0), NONE);
    }

    /** Of villages that one object is told one by one nothing is left in the next. */
    private static void villagesInTurn() {
        String full = HOUSES + "person a of a;person b of b;person c of c;person d of d;person e of e;tie a b 1;tie e d 20;"
            + "tie d e 3;work a 1;work e 15;chairs 4;after 28;wear 20;mend 20;take 9;stroll 100;last;";
        OwnedByGuests x = new OwnedByGuests();
        for (int i = 0; i < 3; i++) {
            due("village() of all", Due.village(x, full), 22);
            due("told(3)", x.told(3), 28);
            due("tie(4, 3)", x.tie(4, 3), 10);
            due("village() of people", Due.village(x, PEOPLE + "house f 2 3 4;"), 6);
            due("told(0)", x.told(0), 1);
            due("told(40)", x.told(40), NONE);
            due("tie(4, 3)", x.tie(4, 3), 0);
            due("tie(0, 1)", x.tie(0, 1), 0);
            due("tie(3, 4)", x.tie(3, 4), 0);
            due("told(8)", x.told(8), 0);
            for (int k = 0; k < RULES.length; k++) {
                due(RULES[k] + " untold", x.told(2 + k), UNTOLD[k]);
            }
            for (int p = 0; p < 5; p++) {
                due("told(" + (50 + p) + ")", x.told(50 + p), NONE);
                due("told(" + (60 + p) + ")", x.told(60 + p), 0);
            }
            due("village() of none", Due.village(x, ""), 0);
            due("told(0)", x.told(0), 0);
            due("told(1)", x.told(1), 0);
        }
    }

    private static void faultAsked() {
        DUE.says("its FAULT's KIND, 0 without (and ahead of any), 1: its PLACE (NONE). NONE for another what.");
        OwnedByGuests x = new OwnedByGuests();
        due("fault(0) ahead of any", x.fault(0), 0);
        due("fault(1) ahead of any", x.fault(1), NONE);
        Due.village(x, "  x");
        due("fault(0)", x.fault(0), 1);
        due("fault(1)", x.fault(1), 2);
        due("fault(0) is asked again", x.fault(0), 1);
        int[] wrong = {2, -1, 3, Integer.MAX_VALUE, Integer.MIN_VALUE};
        for (int what : wrong) {
            due("fault(" + what + ")", x.fault(what), NONE);
            TWINS.refused("fault(" + what + ")", y -> y.fault(what), NONE);
        }
        DUE.says("Of the latest village()");
        Due.village(x, "take 10;");
        due("fault(0) of the latest", x.fault(0), 2);
        due("fault(1) of the latest", x.fault(1), 5);
        Due.village(x, "");
        due("fault(0) behind one without", x.fault(0), 0);
        due("fault(1) behind one without", x.fault(1), NONE);
    }

    private static void toldAsked() {
        DUE.says("60 + p: when he must work, as bits. NONE for others.");
        OwnedByGuests x = Due.of("house a 3 4 5;house b 6 7 8;person x;person y of b;person z of a;work y 9;");
        int[] want = new int[200];
        java.util.Arrays.fill(want, NONE);
        int[][] told = {{0, 2}, {1, 3}, {2, 2}, {3, 12}, {4, 2}, {5, 1}, {6, 1}, {7, 0}, {8, 0}, {10, 3}, {11, 6}, {20, 4},
            {21, 7}, {30, 5}, {31, 8}, {40, 2}, {41, 1}, {51, 1}, {52, 0}, {60, 0}, {61, 9}, {62, 0}};
        for (int[] row : told) {
            want[row[0]] = row[1];
        }
        for (int what = 0; what < want.length; what++) {
            due("told(" + what + ")", x.told(what), want[what]);
        }
        int[] wrong = {-1, -2, -9, -10, -50, Integer.MIN_VALUE, Integer.MAX_VALUE, 1 << 16};
        for (int what : wrong) {
            due("told(" + what + ")", x.told(what), NONE);
            TWINS.refused("told(" + what + ")", y -> y.told(what), NONE);
        }
        x = Due.of(HOUSES + PEOPLE);
        for (int row = 10; row < 70; row += 10) {
            due("told(" + (row + 4) + ") is told", x.told(row + 4), row < 40 ? 1 : row < 60 ? NONE : 0);
            due("told(" + (row + 5) + ")", x.told(row + 5), NONE);
            due("told(" + (row + 9) + ")", x.told(row + 9), NONE);
        }
    }

    private static void tieAsked() {
        DUE.says("The tie of a PERSON to another one (0 untold); RANGE (-1000), also to himself.");
        OwnedByGuests x = Due.of(PEOPLE + "tie a e 0;tie e a 20;");
        due("tie(0, 4)", x.tie(0, 4), -10);
        due("tie(4, 0)", x.tie(4, 0), 10);
        due("tie(3, 4)", x.tie(3, 4), 0);
        for (int p = 0; p < 5; p++) {
            due("tie(" + p + ", " + p + ")", x.tie(p, p), -1000);
        }
        int[][] wrong = {{5, 0}, {0, 5}, {-1, 0}, {0, -1}, {-1, -1}, {5, 5}, {0, Integer.MAX_VALUE},
            {Integer.MIN_VALUE, 0}, {Integer.MAX_VALUE, 1}};
        for (int[] row : wrong) {
            due("tie(" + row[0] + ", " + row[1] + ")", x.tie(row[0], row[1]), -1000);
            TWINS.refused("tie(" + row[0] + ", " + row[1] + ")", y -> y.tie(row[0], row[1]), -1000);
        }
        x = Due.of("person x;");
        due("tie(0, 1) of one alone", x.tie(0, 1), -1000);
    }

    private static void countAsked() {
        DUE.says("What 0: clauses of the VILLAGE, 1: QUARTERS that passed, 2: bytes of THE TAPE. NONE for others.");
        OwnedByGuests x = new OwnedByGuests();
        for (int what = 0; what < 3; what++) {
            due("count(" + what + ") of a new one", x.count(what), 0);
        }
        Due.village(x, "last;take 1;");
        x.pass(400);
        x.pass(400);
        fill(x, 900);
        due("count(0)", x.count(0), 2);
        due("count(1)", x.count(1), 800);
        due("count(2)", x.count(2), 900);
        int[] wrong = {3, -1, Integer.MAX_VALUE, Integer.MIN_VALUE};
        for (int what : wrong) {
            due("count(" + what + ")", x.count(what), NONE);
            TWINS.refused("count(" + what + ")", y -> y.count(what), NONE);
        }
    }
}
