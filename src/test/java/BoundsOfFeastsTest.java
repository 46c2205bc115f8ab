/** Terms III from FEAST on and promises 30 to 35: a test for each sentence that names a boundary. */
public final class BoundsOfFeastsTest {
    private static final Due DUE = new Due();
    private static final Twins TWINS = new Twins(DUE);
    private static final int NONE = OwnedByGuests.NONE;
    private static final int RANGE = OwnedByGuests.RANGE;
    private static final int STATE = OwnedByGuests.STATE;
    private static final int NO_BOOK = -1000;
    private static final String[] NAMES = {"a", "b", "c", "d", "e"};

    public static void main(String[] args) {
        feastsEnd();
        feastsTurn();
        noFeast();
        turnedAsked();
        latestFeast();
        whomOfSets();
        whomOfAlikeOnes();
        whomAsked();
        edgeByWorth();
        edgeIsGreater();
        edgeAsked();
        showByChairs();
        showOfAlikeOnes();
        showAsked();
        bookNumbers();
        noBook();
        booksFromTheBeginning();
        booksOfWishes();
        booksOfWork();
        firstThatCannot();
        rowsEnd();
        longestBook();
        booksChangeNothing();
        DUE.close();
    }

    private static void due(String call, int got, int want) {
        DUE.due(call, got, want);
    }

    private static OwnedByGuests people(int n) {
        StringBuilder text = new StringBuilder();
        for (int p = 0; p < n; p++) {
            text.append("person ").append(NAMES[p]).append(';');
        }
        return Due.of(text.toString());
    }

    // ---- feasts

    private static void feastsEnd() {
        DUE.says("ENDS: the fewest turns (1 at least) behind which all are at their own.");
        due("feast() of nobody", Due.feast(people(0), ""), 1);
        due("feast() of one", Due.feast(people(1), "0"), 1);
        due("feast() of two at their own", Due.feast(people(2), "01"), 1);
        due("feast() of two", Due.feast(people(2), "10"), 2);
        due("feast() of three", Due.feast(people(3), "120"), 3);
        due("feast() of two of three", Due.feast(people(3), "021"), 2);
        due("feast() of four", Due.feast(people(4), "1230"), 4);
        due("feast() of two and two", Due.feast(people(4), "1032"), 2);
        due("feast() of five at their own", Due.feast(people(5), "01234"), 1);
        due("feast() of five", Due.feast(people(5), "12340"), 5);
        due("feast() of three and two", Due.feast(people(5), "12043"), 6);
        due("feast() of two and three", Due.feast(people(5), "10342"), 6);
        due("feast() of four of five", Due.feast(people(5), "12304"), 4);
    }

    /** All rows of five, turn by turn. */
    private static void feastsTurn() {
        DUE.says("where PERSON k is (at first at his own place k) goes on to the place that the row tells behind k: each turn.");
        OwnedByGuests x = people(5);
        int rows = 0;
        for (int number = 0; number < 55555; number++) {
            String row = String.format("%05d", number);
            if (row.chars().filter(c -> c < '5').distinct().count() == 5) {
                rows++;
                int ends = Due.feast(x, row);
                boolean isEnd = false;
                int[] at = {0, 1, 2, 3, 4};
                for (int turns = 0; turns <= 6 && !isEnd; turns++) {
                    isEnd = turns > 0;
                    for (int p = 0; p < 5; p++) {
                        due("turned(" + p + ", " + turns + ") by " + row, x.turned(p, turns), at[p]);
                        isEnd = isEnd && at[p] == p;
                        at[p] = row.charAt(at[p]) - '0';
                    }
                    if (isEnd) {
                        due("feast() of " + row, ends, turns);
                    }
                }
                due("that " + row + " ends", isEnd ? 1 : 0, 1);
                // as few calls as an object has
                x = people(5);
            }
        }
        due("rows of five", rows, 120);
    }

    private static void noFeast() {
        DUE.says("when it ENDS; NONE: it is no such row (what was told stays).");
        String[] wrong = {"", "0", "01", "12", "0123", "1201", "110", "000", "122", "123", "012 ", " 120", "o12", "/01", "01/",
            "1;2", "2\n0", "\u0000\u0001\u0002", "013"};
        for (String row : wrong) {
            TWINS.refusedAndEmptied("feast() of '" + row + "'", x -> Due.feast(x, row), NONE);
        }
        due("feast() of nobody with a byte", Due.feast(people(0), "0"), NONE);
        OwnedByGuests x = people(2);
        due("feast() of no such row, ahead of any", Due.feast(x, "00"), NONE);
        due("turned(0, 1): there was none", x.turned(0, 1), NONE);
        x = people(5);
        due("feast() of five", Due.feast(x, "12340"), 5);
        due("feast() of four of them", Due.feast(x, "1230"), NONE);
        due("feast() with one twice", Due.feast(x, "12344"), NONE);
        due("feast() with one that isn't there", Due.feast(x, "12345"), NONE);
        due("turned(4, 1) stays", x.turned(4, 1), 0);
    }

    private static void turnedAsked() {
        DUE.says("at whose place a PERSON is behind so many turns (0 .. 999); NONE: there was none; RANGE.");
        int[][] wrong = {{0, -1}, {0, 1000}, {-1, 0}, {3, 0}, {5, 1}, {0, Integer.MAX_VALUE}, {0, Integer.MIN_VALUE},
            {Integer.MAX_VALUE, 0}, {Integer.MIN_VALUE, 0}};
        for (int[] row : wrong) {
            TWINS.refused("turned(" + row[0] + ", " + row[1] + ")", x -> x.turned(row[0], row[1]), RANGE);
        }
        OwnedByGuests x = people(3);
        for (int turns : new int[] {0, 1, 999}) {
            due("turned(2, " + turns + ") ahead of any", x.turned(2, turns), NONE);
        }
        due("turned(3, 0) ahead of any", x.turned(3, 0), RANGE);
        due("turned(0, 1000) ahead of any", x.turned(0, 1000), RANGE);
        Due.feast(x, "120");
        due("turned(2, 0)", x.turned(2, 0), 2);
        due("turned(2, 1)", x.turned(2, 1), 0);
        due("turned(2, 998)", x.turned(2, 998), 1);
        due("turned(2, 999)", x.turned(2, 999), 2);
    }

    private static void latestFeast() {
        DUE.says("By the latest feast()");
        OwnedByGuests x = people(3);
        Due.feast(x, "120");
        Due.feast(x, "021");
        due("turned(0, 1)", x.turned(0, 1), 0);
        due("turned(1, 1)", x.turned(1, 1), 2);
        // a village with a fault leaves it, one without doesn't; slots and quarters have nothing to do with it
        x.keep(0);
        Due.feast(x, "102");
        x.pass(4);
        x.take(0);
        due("turned(0, 1) behind take(0)", x.turned(0, 1), 1);
        Due.village(x, "person x");
        due("turned(0, 1) behind a village with a fault", x.turned(0, 1), 1);
        Due.village(x, "person a;person b;person c;");
        due("turned(0, 1) behind a village", x.turned(0, 1), NONE);
        due("feast() anew", Due.feast(x, "210"), 2);
        due("turned(0, 1) anew", x.turned(0, 1), 2);
    }

    // ---- doors

    private static void whomOfSets() {
        DUE.says("WHOM to let in: the set of others (not himself) as LETS of a PERSON with the greatest SUM of his");
        String[] texts = {"chairs 4;after 0;house h 0 9 90;person o of h;person b;person c;person d;person e;"
            + "tie o b 20;tie o c 0;tie o d 11;tie o e 9;",
            "chairs 2;house h 3 9 90;person a;person b of h;person c;person d;tie b a 15;tie b c 19;tie b d 20;after 2;",
            "last;chairs 1;house h 3 9 90;person a;person b of h;person c;tie b a 20;tie b c 12;tie a c 0;"};
        for (String text : texts) {
            OwnedByGuests told = Due.of(text);
            int people = told.told(1);
            for (int person = 0; person < people; person++) {
                OwnedByGuests x = Due.of(text);
                for (int p = 0; p < people; p++) {
                    Due.plan(x, p, p % 2 == 0 ? "0000" : "0o00");
                }
                int got = x.whom(person);
                int greatest = Integer.MIN_VALUE;
                int found = NONE;
                for (int bits = 0; bits < 1 << people; bits++) {
                    if ((bits >> person) % 2 == 0) {
                        x.lets(person, bits);
                        int sum = x.sum(person);
                        found = sum > greatest ? bits : found;
                        greatest = Math.max(sum, greatest);
                    }
                }
                due("whom(" + person + ") of " + text, got, found);
            }
        }
    }

    private static void whomOfAlikeOnes() {
        DUE.says("with the greatest SUM of his; the least bits of alike ones.");
        due("whom(0) of one alone", people(1).whom(0), 0);
        OwnedByGuests x = people(5);
        for (int p = 0; p < 5; p++) {
            due("whom(" + p + ") of strangers who are out", x.whom(p), 0);
        }
        // a tie of 0 is no reason to let him in, one of 1 is
        for (int tie = 9; tie <= 11; tie++) {
            x = Due.of("after 0;house h 0 9 100;person z;person o of h;tie o z " + tie + ";");
            Due.plan(x, 0, "0000");
            due("whom(1) with a tie of " + (tie - 10), x.whom(1), tie > 10 ? 1 : 0);
        }
        // all others, but not himself
        x = Due.of("chairs 4;after 0;house h 0 9 100;person a;person b;person o of h;person d;person e;"
            + "tie o a 11;tie o b 11;tie o d 11;tie o e 11;");
        for (int p = 0; p < 5; p++) {
            Due.plan(x, p, "0000");
        }
        x.lets(2, 0);
        due("whom(2)", x.whom(2), 1 + 2 + 8 + 16);
        due("lets(2, 0) stay", x.lets(2, 0), 0);
    }

    private static void whomAsked() {
        DUE.says("WHOM to let in: bits; RANGE.");
        for (int person : new int[] {-1, 3, 5, Integer.MAX_VALUE, Integer.MIN_VALUE}) {
            TWINS.refused("whom(" + person + ")", x -> x.whom(person), RANGE);
        }
    }

    private static OwnedByGuests withWorth(int worth, String more) {
        OwnedByGuests x = Due.of("house k 0 0 0;house h 0 " + worth + " 100;person z;person o of h;person y;" + more);
        Due.plan(x, 0, "1111");
        Due.plan(x, 2, "o111");
        return x;
    }

    private static void edgeByWorth() {
        DUE.says("EDGE: the least WORTH (0 .. 20) of his HOUSE with which his SUM is greater without another one in his LETS than"
            + " with him.");
        String[] more = {"tie o z 13;", "tie o z 20;chairs 1;", "tie o z 9;", "tie o z 20;tie o y 0;after 2;", "after 0;last;",
            "tie o y 18;tie o z 10;chairs 4;", "after 1;tie o z 14;", "tie o z 16;wear 20;after 2;"};
        for (String text : more) {
            for (int other : new int[] {0, 2}) {
                for (int lets : new int[] {31, 0, 1, 4}) {
                    int found = NONE;
                    for (int worth = 20; worth >= 0; worth--) {
                        OwnedByGuests x = withWorth(worth, text);
                        x.lets(1, lets | 1 << other);
                        int with = x.sum(1);
                        x.lets(1, lets & ~(1 << other));
                        found = x.sum(1) > with ? worth : found;
                    }
                    OwnedByGuests x = withWorth(7, text);
                    x.lets(1, lets);
                    due("edge(1, " + other + ") with lets " + lets + " of " + text, x.edge(1, other), found);
                    due("told(21) stays", x.told(21), 7);
                    due("lets(1) stay", x.lets(1, 0), lets);
                }
            }
        }
    }

    private static void edgeIsGreater() {
        DUE.says("with which his SUM is greater without another one in his LETS than with him.");
        // with z he has the tie in each quarter, without him the worth, at least one more
        for (int tie = 9; tie <= 20; tie++) {
            OwnedByGuests x = Due.of("house h 0 7 100;person o of h;person z;tie o z " + tie + ";");
            Due.plan(x, 1, "0000");
            due("edge(0, 1) with a tie of " + (tie - 10), x.edge(0, 1), tie - 10 + 1);
        }
        // by a state of 50 the worth of 20 gives 10: no more than the tie
        OwnedByGuests x = Due.of("mend 0;house h 0 7 50;person o of h;person z;tie o z 20;");
        Due.plan(x, 1, "0000");
        due("edge(0, 1) when no worth is enough", x.edge(0, 1), NONE);
        x = Due.of("mend 0;house h 0 7 55;person o of h;person z;tie o z 20;");
        Due.plan(x, 1, "0000");
        due("edge(0, 1) of the greatest worth", x.edge(0, 1), 20);
        // z doesn't come, or is there already and needn't be let in: all is alike
        x = Due.of("house h 0 7 100;person o of h;person z;tie o z 0;");
        due("edge(0, 1) of one who doesn't come", x.edge(0, 1), NONE);
        Due.plan(x, 1, "0000");
        due("edge(0, 1) of one who comes", x.edge(0, 1), 0);
        x.pass(1);
        due("edge(0, 1) of one who is there", x.edge(0, 1), NONE);
    }

    private static void edgeAsked() {
        DUE.says("EDGE of a PERSON against another one: WORTH; NONE: none; RANGE: also alike ones; STATE: he has no HOUSE.");
        TWINS.refused("edge(1, 0) of a stranger", x -> x.edge(1, 0), STATE);
        TWINS.refused("edge(1, 2) of a stranger", x -> x.edge(1, 2), STATE);
        int[][] wrong = {{0, 0}, {1, 1}, {2, 2}, {0, 3}, {3, 0}, {-1, 0}, {0, -1}, {1, 3}, {1, -1}, {5, 5}};
        for (int[] row : wrong) {
            TWINS.refused("edge(" + row[0] + ", " + row[1] + ")", x -> x.edge(row[0], row[1]), RANGE);
        }
        for (int wild : new int[] {Integer.MIN_VALUE, -1000, 1000, Integer.MAX_VALUE}) {
            TWINS.refused("edge(" + wild + ", 0)", x -> x.edge(wild, 0), RANGE);
            TWINS.refused("edge(0, " + wild + ")", x -> x.edge(0, wild), RANGE);
        }
    }

    private static OwnedByGuests withChairs(int chairs, String more) {
        OwnedByGuests x = Due.of("chairs " + chairs + ";house h 5 9 90;person o of h;person b;person c;person d;person e;" + more);
        for (int p = 1; p < 5; p++) {
            Due.plan(x, p, p % 2 == 0 ? "0000" : "00o0");
        }
        return x;
    }

    private static void showByChairs() {
        DUE.says("SHOW: the number of chairs (1 .. 4) in place of told with which a PERSON's SUM is greatest");
        String[] more = {"", "after 0;tie o b 12;tie o c 12;tie o d 9;tie o e 20;", "last;tie e o 20;tie e b 20;tie d e 0;",
            "after 0;tie o b 9;tie o c 20;tie o d 20;", "after 1;tie o e 20;tie o d 20;tie b c 20;tie c d 0;"};
        for (String text : more) {
            for (int p = 0; p < 5; p++) {
                int greatest = Integer.MIN_VALUE;
                int found = NONE;
                for (int chairs = 1; chairs <= 4; chairs++) {
                    int sum = withChairs(chairs, text).sum(p);
                    found = sum > greatest ? chairs : found;
                    greatest = Math.max(sum, greatest);
                }
                for (int told = 1; told <= 4; told += 3) {
                    OwnedByGuests x = withChairs(told, text);
                    due("show(" + p + ") of " + text, x.show(p), found);
                    due("told(2) stays", x.told(2), told);
                }
            }
        }
    }

    private static void showOfAlikeOnes() {
        DUE.says("with which a PERSON's SUM is greatest; the least of alike ones.");
        due("show(0) of one alone", people(1).show(0), 1);
        due("show(0) when nobody comes", Due.of("chairs 4;house h 0 9 100;person o of h;person z;").show(0), 1);
        // each chair more is worth one more
        OwnedByGuests x = withChairs(1, "after 0;tie o b 11;tie o c 11;tie o d 11;tie o e 11;");
        due("show(0) of four", x.show(0), 4);
        // a fifth chair would be worth more to e, but four are the most
        x = Due.of("house h 0 9 100;person a;person b;person c;person d;person e;tie e a 20;tie d a 20;");
        for (int p = 0; p < 5; p++) {
            Due.plan(x, p, "0000");
        }
        due("show(4) of five guests", x.show(4), 1);
        due("show(3) of five guests", x.show(3), 4);
        x = withChairs(4, "after 0;tie o b 9;");
        due("show(0) of one chair, which is one too many", x.show(0), 1);
    }

    private static void showAsked() {
        DUE.says("SHOW of a PERSON; RANGE.");
        for (int person : new int[] {-1, 3, 5, Integer.MAX_VALUE, Integer.MIN_VALUE}) {
            TWINS.refused("show(" + person + ")", x -> x.show(person), RANGE);
        }
    }

    // ---- books

    private static OwnedByGuests five() {
        return Due.of("chairs 4;house a 0 1 1;house b 0 1 1;house c 0 1 1;house d 0 1 1;house e 0 1 1;"
            + "person a;person b;person c;person d;person e;");
    }

    private static void book(OwnedByGuests x, String text, int want) {
        due("book() of '" + text + "'", Due.book(x, text), want);
        due("count(2) behind it", x.count(2), 0);
    }

    private static void bookNumbers() {
        DUE.says("a QUARTER 0 .. 99, a PERSON 0 .. 4, a place (0 .. 4 a HOUSE, 5 OUT)");
        book(five(), "", 0);
        book(five(), " \n ", 0);
        book(five(), "0 0 0;", 1);
        book(five(), "99 0 0;", 1);
        book(five(), "100 0 0;", NO_BOOK);
        book(five(), "999 0 0;", NO_BOOK);
        book(five(), "0 4 0;", 1);
        book(five(), "0 5 0;", NO_BOOK);
        book(five(), "0 999 0;", NO_BOOK);
        book(five(), "0 0 4;", 1);
        book(five(), "0 0 5;", 1);
        book(five(), "0 0 6;", NO_BOOK);
        book(five(), "0 0 999;", NO_BOOK);
        book(five(), "099 004 005;", 1);
        // a number out of its bounds anywhere is no book, though a row ahead of it can't be
        book(Due.of("house h 0 0 0;person x;"), "0 1 0;0 5 0;", NO_BOOK);
        book(Due.of("house h 0 0 0;person x;"), "1 0 0;0 0 0;0 0 6;", NO_BOOK);
    }

    private static void noBook() {
        DUE.says("FULL (-1000): it is no such text.");
        String[] wrong = {"0", "0 0", "0 0 0", ";", "0;", "0 0;", "0 0 0;;", ";0 0 0;", "0 0 0 0;", "0 0 0;0", "0 0 0;0 0 0",
            "x", "0 0 x;", "0 x 0;", "x 0 0;", "0 0 o;", "0 0 0;last;", "0 0 0.", "0,0,0;", "-1 0 0;", "0 -1 0;", "0 0 -1;",
            "0000 0 0;", "0 0000 0;", "0 0 0000;", "000;", "0 00;", "0\t0 0;", "0 0 0;\u0000", "\u00ff", "0 0 0:",
            "0 5;", "100;", "0 0 6", "5;", "0 5 5;", "100 0;"};
        for (String text : wrong) {
            book(five(), text, NO_BOOK);
            TWINS.refusedAndEmptied("book() of '" + text + "'", x -> Due.book(x, text), NO_BOOK);
        }
        book(five(), "0\n0\n0\n;\n", 1);
        book(five(), "  0  0  0  ;  ", 1);
        book(five(), "0 0 0;1 0 5;", 2);
    }

    private static void booksFromTheBeginning() {
        DUE.says("From the beginning (as told, LETS as they are), without strolling");
        OwnedByGuests x = Due.of("stroll 100;house h 0 0 0;person o of h;person z;");
        Due.plan(x, 0, "oooo");
        Due.plan(x, 1, "0000");
        x.pass(3);
        // at the beginning o is at home, whatever is now, and no plan and no stroll takes him out
        book(x, "0 0 0;", 1);
        book(x, "50 0 0;", 1);
        book(x, "50 1 5;", 1);
        book(x, "0 1 0;1 1 0;", 2);
        x.lets(0, 0);
        book(x, "0 1 0;", -1);
        book(x, "0 0 5;0 1 0;", 2);
        x.lets(0, 2);
        book(x, "0 1 0;", 1);
        // the store, the state and what was stayed are as told too: z counts in quarters 0 to 1 alone
        x = Due.of("after 2;chairs 2;house h 0 0 0;person o of h;person y;person z;");
        x.lets(0, 2);
        Due.plan(x, 1, "0000");
        x.pass(9);
        book(x, "0 1 0;1 2 0;", 2);
        book(x, "0 1 0;2 2 0;", -2);
    }

    private static void booksOfWishes() {
        DUE.says("who is told in a QUARTER wishes to be there, all others where they are then");
        OwnedByGuests x = Due.of("chairs 1;house h 0 0 0;house k 0 0 0;person o of h;person y;person z;");
        book(x, "0 1 0;", 1);
        book(x, "0 1 0;0 2 0;", -2);
        book(x, "0 2 0;0 1 0;", -1);
        book(x, "0 1 0;1 2 0;", -2);
        book(x, "0 1 0;1 1 1;1 2 0;", 3);
        book(x, "0 1 0;1 2 0;1 1 1;", 3);
        book(x, "0 1 0;20 1 0;", 2);
        // y was told once and stays on, so that z finds no chair so late
        book(x, "0 1 0;20 2 0;", -2);
        book(x, "0 1 0;19 1 5;20 2 0;", 3);
        // who wasn't let in is out, and stays there untold
        book(x, "0 1 0;0 2 5;1 2 5;", 3);
        // who is told to be where he is stays
        book(x, "0 0 0;1 0 0;2 0 0;", 3);
    }

    private static void booksOfWork() {
        DUE.says("all others where they are then; who must work: OUT.");
        for (int bits = 1; bits <= 15; bits++) {
            for (int quarter = 0; quarter < 8; quarter++) {
                boolean works = (bits >> quarter % 4) % 2 == 1;
                OwnedByGuests x = Due.of("house h 0 0 0;person o of h;work o " + bits + ";");
                book(x, quarter + " 0 0;", works ? -1 : 1);
                // untold he stays out behind his work
                boolean wasOut = false;
                for (int i = 0; i <= quarter; i++) {
                    wasOut = wasOut || (bits >> i % 4) % 2 == 1;
                }
                book(x, quarter + " 0 5;", 1);
                x = Due.of("house h 0 0 0;person o of h;person z;work o " + bits + ";");
                x.lets(0, 0);
                book(x, quarter + " 1 0;", wasOut ? 1 : -1);
            }
        }
    }

    private static void firstThatCannot() {
        DUE.says("how many rows, if it CAN BE; else NONE less the number of the first that can't");
        OwnedByGuests x = Due.of("chairs 4;house h 0 0 0;house k 0 0 0;person o of h;person y;person z;");
        x.lets(0, 0);
        book(x, "0 1 0;", -1);
        book(x, "0 1 1;0 2 0;", -2);
        book(x, "0 2 0;0 1 0;", -1);
        book(x, "0 1 1;1 1 0;2 2 0;", -2);
        book(x, "0 0 0;1 0 0;2 0 0;3 0 0;4 1 0;", -5);
        DUE.says("It CAN BE, if behind each QUARTER each told one is there");
        // all who leave do so ahead of those who come: o isn't there any more, who wouldn't let y in
        book(x, "0 1 0;0 0 5;", 2);
        // by the rows' order the first of a quarter that can't, not by people's numbers
        book(x, "0 2 0;0 1 0;0 0 0;", -1);
        book(x, "0 0 0;0 2 0;0 1 0;", -2);
        // the hundredth row of a long book
        StringBuilder rows = new StringBuilder();
        for (int q = 0; q < 99; q++) {
            rows.append(q).append(q % 2 == 0 ? " 1 1;" : " 1 5;");
        }
        book(x, rows + "99 2 1;", 100);
        book(x, rows + "99 2 0;", -100);
    }

    private static void rowsEnd() {
        DUE.says("rows end ahead of the first that is out of its order or of no such PERSON, HOUSE: if all ahead of it can be, it"
            + " is that one.");
        OwnedByGuests x = Due.of("chairs 4;house h 0 0 0;person o of h;person z;");
        book(x, "0 2 0;", -1);
        book(x, "0 4 5;", -1);
        book(x, "0 0 1;", -1);
        book(x, "0 0 4;", -1);
        book(x, "0 0 0;0 2 0;", -2);
        book(x, "0 0 0;1 1 1;", -2);
        book(x, "0 1 0;0 0 0;1 0 2;2 0 0;", -3);
        DUE.says("QUARTERS never falling, one PERSON once at most in a QUARTER.");
        book(x, "1 0 0;0 1 0;", -2);
        book(x, "99 0 0;98 1 0;", -2);
        book(x, "1 0 0;1 1 0;1 0 0;", -3);
        book(x, "1 0 0;1 0 5;", -2);
        book(x, "1 0 0;2 0 0;2 1 0;3 1 0;", 4);
        book(x, "5 0 0;5 1 0;4 1 0;6 0 7;", NO_BOOK);
        DUE.says("rows end ahead of the first that is out of its order or of no such PERSON, HOUSE: if all ahead of it can be, it"
            + " is that one.");
        // one ahead of it that can't be is the first; what stands in its row or behind it is no wish
        x.lets(0, 0);
        book(x, "0 1 0;0 2 0;", -1);
        book(x, "0 1 0;0 0 3;", -1);
        book(x, "0 1 0;0 0 1;", -1);
        book(x, "0 1 0;0 1 5;0 0 5;", -1);
        book(x, "0 0 5;0 1 0;0 0 5;", -3);
        book(x, "1 1 0;0 0 5;", -1);
        // of nobody every row is of no such person
        book(new OwnedByGuests(), "0 0 5;", -1);
        book(Due.of("person x;"), "0 0 0;", -1);
        book(Due.of("person x;"), "0 0 5;", 1);
    }

    private static void longestBook() {
        DUE.says("THE TAPE has at most 900 bytes");
        OwnedByGuests x = five();
        StringBuilder rows = new StringBuilder();
        for (int q = 0; q < 10; q++) {
            for (int p = 0; p < 5; p++) {
                rows.append(q).append(' ').append(p).append(' ').append(p).append(';');
            }
        }
        book(x, rows.toString(), 50);
        // the last byte is the 900th
        book(x, "0 0 0;".repeat(150), -2);
        book(x, "0 0 0;".repeat(149) + "0 0 0,", NO_BOOK);
        book(x, "0 0 0;".repeat(149) + "0 0 6;", NO_BOOK);
    }

    private static void booksChangeNothing() {
        DUE.says("THE TAPE is a BOOK: how many rows, if it CAN BE");
        TWINS.refusedAndEmptied("book() of two rows", x -> Due.book(x, "0 0 5;99 0 0;"), 2);
        TWINS.refusedAndEmptied("book() of a row that can't be", x -> Due.book(x, "2 2 1;"), -1);
        TWINS.refusedAndEmptied("book() of no rows", x -> Due.book(x, ""), 0);
    }
}
