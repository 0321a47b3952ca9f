/** Promises 1 to 8: a new object, THE TAPE, texts, their FAULTS, and what they tell. */
public final class TextTest {
    private static final Due due = new Due();

    public static void main(String[] args) {
        newObject();
        tape();
        tokens();
        faults();
        taking();
        told();
        things();
        patterns();
        due.end();
    }

    private static void newObject() {
        BeastFloor x = new BeastFloor();
        due.is("told(0)", x.told(0), 0);
        due.is("told(1)", x.told(1), 0);
        for (int cell = 0; cell < 64; cell++) {
            due.is("at(" + cell + ")", x.at(cell), -1);
        }
        for (int k = 0; k < 4; k++) {
            due.is("write(" + k + ", 0, 0)", x.write(k, 0, 0), -11);
        }
        due.is("count(5)", x.count(5), -4);
        due.is("fault()", x.fault(), 0);
        due.is("torn()", x.torn(), 0);
        due.is("count(4)", x.count(4), 0);
        due.is("undo()", x.undo(), -2);
    }

    private static void tape() {
        BeastFloor x = new BeastFloor();
        for (int i = 1; i <= 50; i++) {
            due.is("feed " + i, x.feed(0x2020202020202020L), 8 * i);
        }
        due.is("feed beyond 400", x.feed(0L), -3);
        due.is("count(4) full", x.count(4), 400);
        due.is("end(401)", x.end(401), -1);
        due.is("end(-1)", x.end(-1), -1);
        due.is("end(400)", x.end(400), 400);
        due.is("end(393)", x.end(393), 400);
        due.is("feed to 401", x.feed(0x2020202020202020L), -3);
        due.is("end(392)", x.end(392), 393);
        due.is("feed to 400", x.feed(0x2020202020202020L), 400);
        due.is("text() of blanks", x.text(), 0);
        due.is("count(4) behind text()", x.count(4), 0);
        // The highest byte comes first: "patch; " and a blank.
        due.is("feed", x.feed(0x70617463683b2020L), 8);
        due.is("text()", x.text(), 1);
        due.is("count(3)", x.count(3), 1);
    }

    private static void reads(String text, int lines) {
        BeastFloor x = new BeastFloor();
        due.is("text() of '" + text + "'", Due.tell(x, text), lines);
        due.is("fault() of '" + text + "'", x.fault(), 0);
        due.is("count(4) behind '" + text + "'", x.count(4), 0);
    }

    private static void faulty(String text, int fault, int place) {
        BeastFloor x = new BeastFloor();
        due.is("text() of '" + text + "'", Due.tell(x, text), -10 - place);
        due.is("fault() of '" + text + "'", x.fault(), fault);
        due.is("count(4) behind '" + text + "'", x.count(4), 0);
        due.is("told(0) behind '" + text + "'", x.told(0), 0);
    }

    private static void tokens() {
        reads("", 0);
        reads("   ", 0);
        reads("row1 1;row 2 2 ;  patch0 1;gives0 1 ;", 4);
        reads("  row   1   1  ;  ", 1);
        reads("row 001 007;", 1);
        reads("quarry a0 1;quarry b 0 1;", 2);
        reads("patch;patch 0;", 2);
        faulty("Row 1 1;", 1, 0);
        faulty("z", 2, 0);
        faulty("row 1 1;{", 1, 8);
        faulty("row 1 1;`", 1, 8);
        faulty("row 1 1:", 1, 7);
        faulty("row 1 1/", 1, 7);
        faulty("row 1 1;\n", 1, 8);
        faulty("row 1\t1;", 1, 5);
        faulty("row 1 1; " + (char) 233, 1, 9);
        faulty("row 1 1; " + (char) 0, 1, 9);
        faulty("row 0001 1;", 1, 4);
        faulty("1000", 1, 0);
        faulty("row 1 1,", 1, 7);
        // A TOKEN is read only when the one before has been taken.
        faulty("row 0 ?", 3, 4);
        faulty("rows ?", 2, 0);
    }

    private static void faults() {
        faulty("row", 2, 3);
        faulty("row ", 2, 4);
        faulty("row 1", 2, 5);
        faulty("row 1 1  ", 2, 9);
        faulty("row ;", 2, 4);
        faulty("row 1 1 1;", 2, 8);
        faulty("row 1 1row", 2, 7);
        faulty("row a 1;", 2, 4);
        faulty(";", 2, 0);
        faulty("1;", 2, 0);
        faulty("rowx 1 1;", 2, 0);
        faulty("ro 1 1;", 2, 0);
        faulty("bow 1 1;", 2, 0);
        faulty("rob 1 1;", 2, 0);
        faulty("patci;", 2, 0);
        faulty("given 0 1;", 2, 0);
        faulty("spart 1;", 2, 0);
        faulty("quarrx a 1 1;", 2, 0);
        faulty("look abcd abcd abcd abcd;", 2, 0);
        faulty("row 100 1;", 3, 4);
        faulty("row 1 0;", 3, 6);
        faulty("patch x;", 2, 6);
        faulty("patch", 2, 5);
        faulty("row 1 1;patch 1;", 3, 14);
        faulty("row 1 1;row 1 1;patch 1 0 1;", 4, 26);
        faulty("gives 0 1;", 3, 6);
        faulty("row 1 1;gives 0 0;", 3, 16);
        faulty("row 1 1;row 1 1;gives 0 2;", 3, 24);
        faulty("row 1 1;row 1 1;gives 0 1;gives 1 0;gives 0 1;", 4, 44);
        faulty("row 1 1;row 1 1;gives 0;", 2, 23);
        faulty("apart;", 2, 5);
        faulty("apart 100;", 3, 6);
        faulty("apart 1;apart ?", 4, 8);
        faulty("quarry 1 1 1;", 2, 7);
        faulty("quarry g 1 1;", 3, 7);
        faulty("quarry aa 1 1;", 3, 7);
        faulty("quarry a 100 1;", 3, 9);
        faulty("quarry a 0 0;", 3, 11);
        faulty("quarry a 0 100;", 3, 11);
        faulty("quarry f 0 1;quarry f ?", 4, 20);
        faulty("quarry a 0 1;quarry b 0 1;quarry a 0 1;", 4, 33);
        faulty("quarry a 0 1;quarry b 0 1;quarry b 0 1;", 4, 33);
        faulty("book abcd abcd abcd;", 2, 19);
        faulty("book abcd 1;", 2, 10);
        faulty("book abcde abcd abcd abcd;", 3, 5);
        faulty("book abc abcd abcd abcd;", 3, 5);
        faulty("book abcd abcg abcd abcd;", 3, 10);
        faulty("book abcd abcy abcd abcd;", 3, 10);
        faulty("book abcd abcd abcd abcd abcd;", 2, 25);
        faulty("patch;patch;patch;patch;patch;patch;patch;patch;patch;patch;patch;patch;patch ?", 5, 72);
        faulty("patch;patch;patch;patch;patch;patch;patch;patch;patch;patch;patch;patch;row ?", 5, 72);
        String book = "book abcd abcd abcd xxxx;";
        reads(book + book + book + book, 4);
        faulty(book + book + book + book + "book ?", 5, 100);
        // A PATCH that cuts all that there may be.
        reads("patch;patch;patch;patch;patch;patch;patch;patch;patch;patch;patch;patch 0 1 2 3 4 5 6 7 8 9 10;", 12);
        // What a PATCH cuts may be told by gives as well.
        reads("row 1 1;patch 0;gives 1 0;", 3);
    }

    private static void taking() {
        BeastFloor x = due.told("row 3 30;patch 0;apart 5;quarry c 7 8;book abcd efxx aaaa bbbb;");
        x.put(5, 3);
        x.knot(4);
        x.sheet(1, 2, 3);
        due.is("text() with a FAULT", Due.tell(x, "row 1 1; row 1 1000;"), -25);
        due.is("fault()", x.fault(), 1);
        due.is("told(0) stays", x.told(0), 2);
        due.is("told(1) stays", x.told(1), 1);
        due.is("told(2) stays", x.told(2), 5);
        due.is("told(12) stays", x.told(12), 7);
        due.is("thing(0, 0) stays", x.thing(0, 0), 3);
        due.is("thing(1, 3) stays", x.thing(1, 3), 1);
        due.is("pattern(0, 0, 5) stays", x.pattern(0, 0, 5), 5);
        due.is("ahead(0, 1) stays", x.ahead(0, 1), 1);
        due.is("text() that is taken", Due.tell(x, "row 4 4;"), 1);
        due.is("fault() of it", x.fault(), 0);
        due.is("told(0)", x.told(0), 1);
        due.is("told(1)", x.told(1), 0);
        due.is("told(2)", x.told(2), 10);
        due.is("told(12)", x.told(12), 1);
        due.is("told(22)", x.told(22), 10);
        due.is("pattern(0, 0, 0)", x.pattern(0, 0, 0), -1);
        due.is("at(5) stays", x.at(5), 3);
        due.is("count(1) stays", x.count(1), 1);
        due.is("write(1, 2, 0) stays", x.write(1, 2, 0), 1);
        due.is("text() of nothing", x.text(), 0);
        due.is("told(0) of nothing", x.told(0), 0);
        due.is("orders() of nothing", x.orders(), 1);
    }

    private static void told() {
        BeastFloor x = due.told("apart 0;quarry a 0 99;quarry f 99 1;row 1 1;patch;patch 0;book xxxx xxxx xxxx xxxx;");
        long[] want = {3, 1, 0};
        for (int what = 0; what < 3; what++) {
            due.is("told(" + what + ")", x.told(what), want[what]);
        }
        int[] price = {0, 1, 1, 1, 1, 99};
        int[] daily = {99, 10, 10, 10, 10, 1};
        for (int c = 0; c < 6; c++) {
            due.is("told(10 + " + c + ")", x.told(10 + c), price[c]);
            due.is("told(20 + " + c + ")", x.told(20 + c), daily[c]);
        }
        int[] bad = {-1, 3, 9, 16, 19, 26, Integer.MIN_VALUE, Integer.MAX_VALUE};
        for (int what : bad) {
            due.is("told(" + what + ")", x.told(what), -1);
        }
        due.is("told(2) 99", due.told("apart 99;").told(2), 99);
    }

    private static void things() {
        BeastFloor x = due.told("row 99 999;patch 0;row 5 7;gives 2 1;gives 1 0;patch 2 0;");
        int[][] want = {{99, 999, 0, 0}, {0, 0, 1, 1}, {5, 7, 2, 3}, {0, 0, 5, 7}};
        for (int t = 0; t < 4; t++) {
            for (int what = 0; what < 4; what++) {
                due.is("thing(" + t + ", " + what + ")", x.thing(t, what), want[t][what]);
            }
        }
        due.is("thing(-1, 0)", x.thing(-1, 0), -1);
        due.is("thing(4, 0)", x.thing(4, 0), -1);
        due.is("thing(0, -1)", x.thing(0, -1), -1);
        due.is("thing(0, 4)", x.thing(0, 4), -1);
        BeastFloor ring = due.told("row 1 1;row 1 1;row 1 1;gives 0 1;gives 1 0;gives 2 1;");
        due.is("thing(0, 3) in a RING", ring.thing(0, 3), 3);
        due.is("thing(2, 3) behind a RING", ring.thing(2, 3), 3);
    }

    private static void patterns() {
        // Each colour once or so, so that every WAY shows.
        BeastFloor x = due.told("book abcd efxa bcde fxab;");
        String[] ways = {
            "abcdefxabcdefxab", // as it is
            "fbeaxcfbadxcbead", // a quarter to the right
            "baxfedcbaxfedcba", // a half
            "daebcxdabfcxaebf", // three quarters
            "dcbaaxfeedcbbaxf", // mirrored
            "beadadxcxcfbfbea",
            "fxabbcdeefxaabcd",
            "aebfbfcxcxdadaeb",
        };
        for (int way = 0; way < 8; way++) {
            for (int cell = 0; cell < 16; cell++) {
                char sign = ways[way].charAt(cell);
                due.is("pattern(0, " + way + ", " + cell + ")", x.pattern(0, way, cell), sign == 'x' ? -4 : sign - 'a');
            }
        }
        due.is("pattern(1, 0, 0)", x.pattern(1, 0, 0), -1);
        due.is("pattern(-1, 0, 0)", x.pattern(-1, 0, 0), -1);
        due.is("pattern(0, 8, 0)", x.pattern(0, 8, 0), -1);
        due.is("pattern(0, -1, 0)", x.pattern(0, -1, 0), -1);
        due.is("pattern(0, 0, 16)", x.pattern(0, 0, 16), -1);
        due.is("pattern(0, 0, -1)", x.pattern(0, 0, -1), -1);
    }
}
