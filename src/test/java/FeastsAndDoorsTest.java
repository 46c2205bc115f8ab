/** Promises 30 to 36: feasts, whom to let in, from which worth on not, chairs, books, counts. */
public final class FeastsAndDoorsTest {
    private static final Due DUE = new Due();
    private static final String FIVE = "person a;person b;person c;person d;person e;";

    public static void main(String[] args) {
        feasts();
        whom();
        edge();
        show();
        books();
        booksOutOfOrder();
        booksAndWork();
        noBooks();
        longBooks();
        counts();
        readme();
        DUE.close();
    }

    private static void due(String call, int got, int want) {
        DUE.due(call, got, want);
    }

    private static void feasts() {
        OwnedByGuests x = Due.of(FIVE);
        due("turned(0, 0) ahead of any", x.turned(0, 0), OwnedByGuests.NONE);
        due("feast() of all at their own", Due.feast(x, "01234"), 1);
        due("turned(3, 999)", x.turned(3, 999), 3);
        due("feast() of three and two", Due.feast(x, "12043"), 6);
        int[][] want = {{0, 0, 0}, {0, 1, 1}, {0, 2, 2}, {0, 3, 0}, {1, 1, 2}, {2, 1, 0}, {3, 1, 4}, {4, 1, 3},
            {3, 2, 3}, {0, 5, 2}, {3, 999, 4}, {0, 998, 2}};
        for (int[] row : want) {
            due("turned(" + row[0] + ", " + row[1] + ")", x.turned(row[0], row[1]), row[2]);
        }
        due("feast() of five", Due.feast(x, "23401"), 5);
        due("turned(0, 1)", x.turned(0, 1), 2);
        String[] wrong = {"", "2340", "234011", "01233", "01235", "0123/", "0123o", "0123 ",
            "11234", "/1234", "51234", "o1234"};
        for (String row : wrong) {
            due("feast() of '" + row + "'", Due.feast(x, row), OwnedByGuests.NONE);
        }
        due("turned(0, 1) stays", x.turned(0, 1), 2);
        due("turned(5, 0)", x.turned(5, 0), OwnedByGuests.RANGE);
        due("turned(-1, 0)", x.turned(-1, 0), OwnedByGuests.RANGE);
        due("turned(0, 1000)", x.turned(0, 1000), OwnedByGuests.RANGE);
        due("turned(0, -1)", x.turned(0, -1), OwnedByGuests.RANGE);
        x.keep(0);
        Due.feast(x, "10234");
        x.take(0);
        due("slots keep no feasts", x.turned(0, 1), 1);
        x = new OwnedByGuests();
        due("feast() of nobody", x.feast(), 1);
    }

    private static void whom() {
        OwnedByGuests x = Due.of("chairs 4;after 0;house h 0 10 100;person x of h;person y;person z;"
            + "tie x y 20;tie x z 0;");
        due("whom(0) when nobody comes", x.whom(0), 0);
        Due.plan(x, 1, "0000");
        Due.plan(x, 2, "0000");
        due("whom(0)", x.whom(0), 2);
        due("whom(1)", x.whom(1), 0);
        due("lets stay", x.lets(0, 31), 31);
        due("whom(3)", x.whom(3), OwnedByGuests.RANGE);
        due("whom(-1)", x.whom(-1), OwnedByGuests.RANGE);
        x = Due.of("chairs 4;after 0;house h 0 10 100;person y;person x of h;person z;tie x y 11;tie x z 11;");
        Due.plan(x, 0, "0000");
        Due.plan(x, 2, "0000");
        due("whom(1) of both", x.whom(1), 5);
    }

    private static void edge() {
        String text = "house k 0 1 1;house h 0 7 100;person z;person x of h;tie x z ";
        OwnedByGuests x = Due.of(text + "13;");
        Due.plan(x, 0, "1111");
        // with z he has 3 a quarter, without him its worth
        due("edge(1, 0)", x.edge(1, 0), 4);
        x.lets(1, 0);
        due("edge(1, 0), whatever his lets are", x.edge(1, 0), 4);
        due("lets stay", x.lets(1, 31), 0);
        due("told(21) stays", x.told(21), 7);
        due("edge(0, 1) of a stranger", x.edge(0, 1), OwnedByGuests.STATE);
        due("edge(0, 0)", x.edge(0, 0), OwnedByGuests.RANGE);
        due("edge(1, 1)", x.edge(1, 1), OwnedByGuests.RANGE);
        due("edge(1, 2)", x.edge(1, 2), OwnedByGuests.RANGE);
        due("edge(2, 1)", x.edge(2, 1), OwnedByGuests.RANGE);
        due("edge(-1, 0)", x.edge(-1, 0), OwnedByGuests.RANGE);
        due("edge(1, -1)", x.edge(1, -1), OwnedByGuests.RANGE);
        x = Due.of(text + "9;");
        Due.plan(x, 0, "1111");
        due("edge(1, 0) of one whom x dislikes", x.edge(1, 0), 0);
        x = Due.of(text + "20;after 0;");
        Due.plan(x, 0, "1111");
        due("edge(1, 0) when he takes nothing", x.edge(1, 0), OwnedByGuests.NONE);
        x = Due.of("house h 0 7 40;mend 0;person z;person x of h;tie x z 18;");
        Due.plan(x, 0, "0000");
        // 8 a quarter with z; 40 of a hundred of 20 are 8 too
        due("edge(1, 0) beyond all worth", x.edge(1, 0), OwnedByGuests.NONE);
        x = Due.of("house h 0 7 40;mend 0;person z;person x of h;tie x z 17;");
        Due.plan(x, 0, "0000");
        due("edge(1, 0) of the greatest worth", x.edge(1, 0), 20);
    }

    private static void show() {
        String text = "house h 0 10 100;after 0;person x of h;person y;person z;person v;person w;tie x y 13;tie x z 13;";
        OwnedByGuests x = Due.of(text);
        due("show(0) when nobody comes", x.show(0), 1);
        for (int p = 1; p < 5; p++) {
            Due.plan(x, p, "0000");
        }
        due("show(0)", x.show(0), 2);
        due("show(1) of alike ones", x.show(1), 1);
        due("told(2) stays", x.told(2), 2);
        Due.village(x, text + "tie x w 20;tie x v 8;");
        for (int p = 1; p < 5; p++) {
            Due.plan(x, p, "0000");
        }
        due("show(0) of four", x.show(0), 4);
        // four chairs are the most: e never finds one
        Due.village(x, "house h 0 10 100;" + FIVE + "tie e a 20;");
        for (int p = 0; p < 5; p++) {
            Due.plan(x, p, "0000");
        }
        due("show(4) of five guests", x.show(4), 1);
        due("show(5)", x.show(5), OwnedByGuests.RANGE);
        due("show(-1)", x.show(-1), OwnedByGuests.RANGE);
    }

    private static void books() {
        OwnedByGuests x = Due.of("chairs 1;house h 9 10 100;house k 0 0 0;person x of h;person y;person z;stroll 100;");
        due("book of no rows", Due.book(x, " \n"), 0);
        due("book of one", Due.book(x, "0 1 0;"), 1);
        due("book of three", Due.book(x, "0 1 0;1 1 5;1 2 0;"), 3);
        due("no chair", Due.book(x, "0 1 0;1 2 0;"), -2);
        due("no chair in the same quarter", Due.book(x, "0 2 0;0 1 0;"), -1);
        due("later rows aren't the first", Due.book(x, "0 1 0;1 2 0;2 2 0;"), -2);
        due("who is in stays in", Due.book(x, "0 1 0;9 1 0;10 2 0;"), -3);
        due("out and in again", Due.book(x, "0 0 5;1 0 0;99 0 0;"), 3);
        due("not told: where he is", Due.book(x, "3 0 5;4 1 0;5 0 0;"), 3);
        x.lets(0, 4);
        due("by lets as they are", Due.book(x, "0 2 0;"), 1);
        due("by lets as they are", Due.book(x, "0 1 0;"), -1);
        due("whoever has it then lets in", Due.book(x, "0 2 0;1 2 5;1 1 0;"), -3);
        x.pass(7);
        due("from the beginning", Due.book(x, "0 2 0;"), 1);
        due("count(1) stays", x.count(1), 7);
        x = Due.of("after 2;chairs 2;house h 0 1 100;person x of h;person y;person z;");
        x.lets(0, 2);
        due("y lets z in", Due.book(x, "0 1 0;1 2 0;"), 2);
        due("y counts no more and x doesn't let z in", Due.book(x, "0 1 0;2 2 0;"), -2);
    }

    private static void booksOutOfOrder() {
        OwnedByGuests x = Due.of("house h 0 1 100;person x of h;person y;");
        due("falling quarters", Due.book(x, "2 0 0;1 1 0;"), -2);
        due("twice in a quarter", Due.book(x, "2 0 0;2 1 0;2 0 0;3 0 5;"), -3);
        due("no such person", Due.book(x, "0 0 0;0 2 0;"), -2);
        due("no such house", Due.book(x, "0 0 0;0 1 1;"), -2);
        due("out is a place", Due.book(x, "0 0 0;0 1 5;"), 2);
        x.lets(0, 0);
        due("one ahead that can't be", Due.book(x, "0 1 0;0 2 0;"), -1);
        // y can't come while x is there; that x leaves is told behind the row that ends all
        due("rows behind tell nothing", Due.book(x, "0 1 0;0 1 0;0 0 5;"), -1);
        due("rows ahead do", Due.book(x, "0 1 0;0 0 5;0 1 0;"), -3);
        due("one who goes to no house doesn't leave", Due.book(x, "0 1 0;0 0 1;"), -1);
        due("a book of nobody", Due.book(new OwnedByGuests(), "0 0 5;"), -1);
    }

    private static void booksAndWork() {
        OwnedByGuests x = Due.of("house h 0 1 100;person x of h;person y;work x 1;work y 2;");
        x.lets(0, 0);
        due("who must work isn't there", Due.book(x, "0 0 0;"), -1);
        due("who must work is out", Due.book(x, "0 0 5;"), 1);
        due("x has left for work, untold", Due.book(x, "0 1 0;"), 1);
        due("and stays out", Due.book(x, "3 0 5;"), 1);
        due("untold he stays out, so y comes", Due.book(x, "2 1 0;"), 1);
        due("at home again he doesn't let y in", Due.book(x, "1 0 0;2 1 0;"), -2);
        due("y is out at work", Due.book(x, "0 1 0;1 1 0;"), -2);
        due("the next day too", Due.book(x, "4 0 5;5 1 5;"), 2);
        due("the next day too", Due.book(x, "1 0 0;4 0 0;"), -2);
    }

    private static void noBooks() {
        OwnedByGuests x = Due.of("house h 0 1 100;person x of h;person y;");
        String[] wrong = {"0 0 0", "0 0;", "0 0 0 0;", "100 0 0;", "0 5 0;", "0 0 6;", "0 0 0;;", "a 0 0;", "0 0 0;x",
            "0 0 -1;", "0000 0 0;", "000;", "2 0 0;1 0 0;3 0", "0 0 0;\u0000", "0,0,0;", ";"};
        for (String text : wrong) {
            due("book() of '" + text + "'", Due.book(x, text), -1000);
        }
        due("book() with blanks", Due.book(x, "\n000 00\n0 ; 1 001 005;  "), 2);
    }

    private static void longBooks() {
        OwnedByGuests x = Due.of("house h 0 1 100;person x of h;");
        StringBuilder text = new StringBuilder();
        for (int q = 0; q < 100; q++) {
            text.append(q).append(q % 2 == 0 ? " 0 0;" : " 0 5;");
        }
        due("book of a hundred", Due.book(x, text.toString()), 100);
        due("book of as many rows as a tape has", Due.book(x, "0 0 0;".repeat(150)), -2);
        due("a row of the last quarter", Due.book(x, "0 0 5;99 0 0;"), 2);
        x = Due.of("house h 0 1 100;" + FIVE);
        due("a book of the last person", Due.book(x, "0 4 0;1 3 0;1 4 5;"), 3);
        x = Due.of("house h 0 1 100;person x of h;person y;after 0;");
        x.lets(0, 0);
        due("a row of the last quarter that can't be", Due.book(x, "0 0 0;99 1 0;"), -2);
        due("book with a wrong end", Due.book(x, "0 0 0;".repeat(149) + "0 0 0 "), -1000);
    }

    private static void counts() {
        OwnedByGuests x = Due.of("person x;last;");
        x.pass(3);
        x.feed(0, 0, 0, 0, 0);
        due("count(0)", x.count(0), 2);
        due("count(1)", x.count(1), 3);
        due("count(2)", x.count(2), 20);
        due("count(3)", x.count(3), OwnedByGuests.NONE);
        due("count(-1)", x.count(-1), OwnedByGuests.NONE);
    }

    /** The run that README.md shows. */
    private static void readme() {
        OwnedByGuests x = new OwnedByGuests();
        x.feed(0x686f7573, 0x65206820, 0x30203130, 0x20313030, 0x3b706572);
        x.feed(0x736f6e20, 0x78206f66, 0x20683b70, 0x6572736f, 0x6e207a3b);
        due("village()", x.village(), 3);
        due("settle()", x.settle(), 2);
        due("pass(1)", x.pass(1), 1);
        due("house(0, 0)", x.house(0, 0), 1);
        due("word(0)", x.word(0), 2);
        due("whom(0)", x.whom(0), 0);
    }
}
