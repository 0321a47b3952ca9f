/** Boundary cases of the lines of a text and of FAULTS 1 to 5, and what a text leaves: part 1 of the terms. */
public final class LinesBoundsTest {
    private static final Bounds due = new Bounds();
    private static final String BOOK = "book abcd efab xxxx xaxf;";

    public static void main(String[] args) {
        twelveThings();
        cubesOfARow();
        lengthOfARow();
        aPatchCutsNone();
        aPatchCutsThoseToldAhead();
        aPatchCutsEachOnce();
        aPatchIsLater();
        givesOfThoseToldAhead();
        givesToAnotherOne();
        givesAgain();
        apartBounds();
        apartForTheSecondTime();
        quarryOfAColour();
        priceOfACube();
        howManyADay();
        quarryForTheSecondTime();
        fourPatterns();
        lettersOfAPattern();
        fourLetters();
        fourRows();
        namesThatBeginNoLine();
        tokensThatCanNotStandThere();
        theEnd();
        theFirstMet();
        aTokenIsReadWhenTheOneBeforeIsTaken();
        inPlaceOfWhatThereWas();
        ordersOfTheNewText();
        patternsOfTheNewText();
        afterAFaultInTheMidst();
        whatNoLineTells();
        whatStays();
        whatWasToldStaysByAFault();
        due.end();
    }

    // ---- row, patch

    private static void twelveThings() {
        due.sentence("row: THINGS are numbered as they come (12 at most, rows and patches); FAULT 5 the 13th (its NAME)");
        due.is("told(0) of 12 rows", due.taken("row 1 1;".repeat(12), 12).told(0), 12);
        due.is("told(0) of 12 patches", due.taken("patch;".repeat(12), 12).told(0), 12);
        BeastFloor x = due.taken("row 1 1;row 2 1;row 3 1;row 4 1;row 5 1;row 6 1;row 7 1;row 8 1;row 9 1;row 10 1;row 11 1;patch;", 12);
        for (int t = 0; t < 12; t++) {
            due.is("thing(" + t + ", 0)", x.thing(t, 0), t < 11 ? t + 1 : 0);
        }
        due.faulty("row 1 1;".repeat(13), 5, 96);
        due.faulty("patch;".repeat(13), 5, 72);
        due.faulty("patch;".repeat(12) + "row 1 1;", 5, 72);
        due.faulty("row 1 1;".repeat(12) + "patch;", 5, 96);
        due.faulty("row 1 1;".repeat(6) + "patch;".repeat(6) + " row 1 1;", 5, 85);
        due.taken("patch;".repeat(12) + "apart 1;gives 0 11;", 14);
    }

    private static void cubesOfARow() {
        due.sentence("row: so many CUBES (1 to 99)");
        due.faulty("row 0 1;", 3, 4);
        due.is("thing(0, 0)", due.taken("row 1 1;", 1).thing(0, 0), 1);
        due.is("thing(0, 0)", due.taken("row 99 1;", 1).thing(0, 0), 99);
        due.faulty("row 100 1;", 3, 4);
        due.faulty("row 999 1;", 3, 4);
    }

    private static void lengthOfARow() {
        due.sentence("row: so long in all (1 to 999)");
        due.faulty("row 1 0;", 3, 6);
        due.is("thing(0, 1)", due.taken("row 1 1;", 1).thing(0, 1), 1);
        due.is("thing(0, 1)", due.taken("row 1 999;", 1).thing(0, 1), 999);
        due.faulty("row 1 1000;", 1, 6);
        due.is("size(0, 1)", due.taken("row 99 1;", 1).size(0, 1), 99);
    }

    private static void aPatchCutsNone() {
        due.sentence("patch { N } ;");
        BeastFloor x = due.taken("patch;", 1);
        due.is("thing(0, 2)", x.thing(0, 2), 0);
        due.is("thing(0, 0)", x.thing(0, 0), 0);
        due.is("thing(0, 1)", x.thing(0, 1), 0);
        BeastFloor all = due.taken("patch;".repeat(11) + "patch 10 9 8 7 6 5 4 3 2 1 0;", 12);
        due.is("thing(11, 2) of all", all.thing(11, 2), 2047);
        due.faulty("patch;".repeat(11) + "patch 0 1 2 3 4 5 6 7 8 9 10 11;", 3, 95);
        due.faulty("patch;".repeat(11) + "patch 0 1 2 3 4 5 6 7 8 9 10 0;", 4, 95);
        due.faulty("patch;".repeat(11) + "patch 0 1 2 3 4 5 6 7 8 9 10 row", 2, 95);
        due.faulty("patch;".repeat(11) + "patch 0 1 2 3 4 5 6 7 8 9 10", 2, 94);
    }

    private static void aPatchCutsThoseToldAhead() {
        due.sentence("patch: cuts THINGS told ahead; FAULT 3 (a THING that there is not)");
        due.faulty("patch 0;", 3, 6);
        due.taken("row 1 1;patch 0;", 2);
        due.faulty("row 1 1;patch 1;", 3, 14);
        due.faulty("row 1 1;patch 0 1;row 1 1;", 3, 16);
        due.faulty("row 1 1;patch 999;", 3, 14);
        due.taken("row 1 1;row 1 1;patch 1;", 3);
        due.faulty("row 1 1;row 1 1;patch 2;", 3, 22);
        // 32 and 0 are not the same bit.
        due.faulty("row 1 1;patch 32;", 3, 14);
    }

    private static void aPatchCutsEachOnce() {
        due.sentence("patch: (each once); FAULT 4 a THING for the second time in a patch");
        due.faulty("row 1 1;patch 0 0;", 4, 16);
        due.faulty("row 1 1;row 1 1;patch 0 1 0;", 4, 26);
        due.faulty("row 1 1;patch 0 00;", 4, 16);
        due.is("two patches may cut one THING", due.taken("row 1 1;patch 0;patch 0;", 3).thing(2, 2), 1);
    }

    private static void aPatchIsLater() {
        due.sentence("patch: it is later than these");
        BeastFloor x = due.taken("row 1 1;row 1 1;patch 1;", 3);
        due.is("ahead(1, 2)", x.ahead(1, 2), 1);
        due.is("ahead(2, 1)", x.ahead(2, 1), 0);
        due.is("ahead(0, 2)", x.ahead(0, 2), 0);
    }

    // ---- gives

    private static void givesOfThoseToldAhead() {
        due.sentence("gives: (both told ahead); FAULT 3 (a THING that there is not)");
        due.faulty("gives 0 1;", 3, 6);
        due.faulty("row 1 1;gives 0 1;", 3, 16);
        due.faulty("row 1 1;gives 1 0;", 3, 14);
        due.is("thing(1, 2)", due.taken("row 1 1;row 1 1;gives 1 0;", 3).thing(1, 2), 1);
        due.is("thing(0, 2)", due.taken("row 1 1;row 1 1;gives 0 1;", 3).thing(0, 2), 2);
        due.faulty("row 1 1;row 1 1;gives 2 0;", 3, 22);
        due.faulty("row 1 1;row 1 1;gives 0 2;", 3, 24);
        due.is("thing(11, 2)", due.taken("patch;".repeat(12) + "gives 11 0;", 13).thing(11, 2), 1);
        due.faulty("patch;".repeat(12) + "gives 12 0;", 3, 78);
        due.faulty("patch;".repeat(12) + "gives 0 12;", 3, 80);
        due.faulty("row 1 1;gives 0 1;row 1 1;", 3, 16);
    }

    private static void givesToAnotherOne() {
        due.sentence("gives: to another one; FAULT 3 (the second of gives like the first)");
        due.faulty("row 1 1;gives 0 0;", 3, 16);
        due.faulty("patch;".repeat(12) + "gives 11 11;", 3, 81);
        due.faulty("row 1 1;gives 0 00;", 3, 16);
    }

    private static void givesAgain() {
        due.sentence("FAULT 4 gives of those two again, in that order (the second)");
        due.faulty("patch;patch;gives 0 1;gives 0 1;", 4, 30);
        due.is("the other order", due.taken("patch;patch;gives 0 1;gives 1 0;", 4).rings(1), 2);
        due.faulty("patch;patch;gives 0 1;gives 1 0;gives 1 0;", 4, 40);
        due.taken("patch;patch;patch;gives 0 1;gives 0 2;gives 1 2;", 6);
        due.taken("patch;patch 0;gives 1 0;", 3);
        due.faulty("patch;patch 0;gives 1 0;gives 1 0;", 4, 32);
    }

    // ---- apart, quarry

    private static void apartBounds() {
        due.sentence("apart: 0 to 99 (10)");
        due.is("told(2) if it is not told", due.taken("patch;", 1).told(2), 10);
        due.is("told(2)", due.taken("apart 0;", 1).told(2), 0);
        due.is("told(2)", due.taken("apart 99;", 1).told(2), 99);
        due.faulty("apart 100;", 3, 6);
        due.faulty("apart 999;", 3, 6);
    }

    private static void apartForTheSecondTime() {
        due.sentence("FAULT 4 apart for the second time (its NAME)");
        due.faulty("apart 1;apart 1;", 4, 8);
        due.faulty("apart 10; apart 5;", 4, 10);
        due.faulty("apart 0;patch;apart", 4, 14);
    }

    private static void quarryOfAColour() {
        due.sentence("quarry: of a COLOUR (one letter a to f); FAULT 3 a NAME that is no COLOUR");
        for (char c = 'a'; c <= 'f'; c++) {
            due.is("told(10 + c)", due.taken("quarry " + c + " 7 8;", 1).told(10 + c - 'a'), 7);
        }
        due.faulty("quarry g 1 1;", 3, 7);
        due.faulty("quarry x 1 1;", 3, 7);
        due.faulty("quarry z 1 1;", 3, 7);
        due.faulty("quarry aa 1 1;", 3, 7);
        due.faulty("quarry ab 1 1;", 3, 7);
        due.faulty("quarry row 1 1;", 3, 7);
        due.faulty("quarry ` 1 1;", 1, 7);
        due.faulty("quarry 0 1 1;", 2, 7);
        due.faulty("quarry;", 2, 6);
    }

    private static void priceOfACube() {
        due.sentence("quarry: the PRICE of a CUBE (0 to 99; 1, if it is not told)");
        due.is("told(10)", due.taken("quarry a 0 1;", 1).told(10), 0);
        due.is("told(10)", due.taken("quarry a 99 1;", 1).told(10), 99);
        due.faulty("quarry a 100 1;", 3, 9);
        due.is("told(11)", due.taken("quarry a 99 1;", 1).told(11), 1);
        due.faulty("quarry a;", 2, 8);
    }

    private static void howManyADay() {
        due.sentence("quarry: how many a day (1 to 99; 10)");
        due.faulty("quarry a 1 0;", 3, 11);
        due.is("told(20)", due.taken("quarry a 1 1;", 1).told(20), 1);
        due.is("told(20)", due.taken("quarry a 1 99;", 1).told(20), 99);
        due.faulty("quarry a 1 100;", 3, 11);
        due.is("told(21)", due.taken("quarry a 1 99;", 1).told(21), 10);
        due.faulty("quarry a 1;", 2, 10);
    }

    private static void quarryForTheSecondTime() {
        due.sentence("FAULT 4 quarry of a COLOUR for the second time (the COLOUR)");
        due.faulty("quarry a 1 1;quarry a 1 1;", 4, 20);
        due.faulty("quarry f 1 1;quarry f 100 1;", 4, 20);
        due.faulty("quarry f 1 10;quarry a 1 1;quarry  f", 4, 35);
        due.taken("quarry a 1 1;quarry b 1 1;quarry c 1 1;quarry d 1 1;quarry e 1 1;quarry f 1 1;", 6);
        // One that tells just what holds without it counts too.
        due.faulty("quarry c 1 10;quarry c 1 10;", 4, 21);
    }

    // ---- book

    private static void fourPatterns() {
        due.sentence("book: a PATTERN (numbered as they come; 4 at most); FAULT 5 the 5th PATTERN (its NAME)");
        BeastFloor x = due.taken("book aaaa aaaa aaaa aaaa;book bbbb bbbb bbbb bbbb;book cccc cccc cccc cccc;book dddd dddd dddd dddd;", 4);
        due.is("told(1)", x.told(1), 4);
        for (int p = 0; p < 4; p++) {
            due.is("pattern(" + p + ", 0, 0)", x.pattern(p, 0, 0), p);
            due.is("pattern(" + p + ", 0, 15)", x.pattern(p, 0, 15), p);
        }
        due.faulty(BOOK.repeat(5), 5, 100);
        due.faulty(BOOK.repeat(4) + "patch; book ?", 5, 107);
        due.taken(BOOK.repeat(4) + "patch;", 5);
    }

    private static void lettersOfAPattern() {
        due.sentence("book: letters a to f or x; FAULT 3 a NAME that is .. no B");
        BeastFloor x = due.taken("book abcd efxa abcd efxa;", 1);
        String want = "abcdefxaabcdefxa";
        for (int cell = 0; cell < 16; cell++) {
            char sign = want.charAt(cell);
            due.is("pattern(0, 0, " + cell + ")", x.pattern(0, 0, cell), sign == 'x' ? -4 : sign - 'a');
        }
        for (char sign = 'a'; sign <= 'z'; sign++) {
            for (int i = 0; i < 4; i++) {
                StringBuilder b = new StringBuilder("aaaa");
                b.setCharAt(i, sign);
                if (sign <= 'f' || sign == 'x') {
                    due.taken("book aaaa aaaa aaaa " + b + ";", 1);
                } else {
                    due.faulty("book aaaa aaaa aaaa " + b + ";", 3, 20);
                }
            }
        }
    }

    private static void fourLetters() {
        due.sentence("book: B: a NAME of 4 letters");
        due.faulty("book aaa aaaa aaaa aaaa;", 3, 5);
        due.faulty("book aaaaa aaaa aaaa aaaa;", 3, 5);
        due.faulty("book aaaa aaaa aaaa aaa;", 3, 20);
        due.faulty("book aaaa aaaa aaaa aaaaa;", 3, 20);
        due.faulty("book a", 3, 5);
        due.faulty("book aaaa 1111 aaaa aaaa;", 1, 10);
        due.faulty("book aaaa 111 aaaa aaaa;", 2, 10);
    }

    private static void fourRows() {
        due.sentence("book: of 4 rows");
        due.faulty("book;", 2, 4);
        due.faulty("book aaaa aaaa aaaa;", 2, 19);
        due.taken("book aaaa aaaa aaaa aaaa;", 1);
        due.faulty("book aaaa aaaa aaaa aaaa aaaa;", 2, 25);
    }

    // ---- FAULTS

    private static void namesThatBeginNoLine() {
        due.sentence("FAULT 2 (a NAME that begins no line ..)");
        String[] near = {"ro", "rows", "patc", "patche", "give", "givess", "apar", "aparts", "quarr", "quarrys", "boo", "books",
            "a", "x", "abcd", "sow", "raw", "rot"};
        for (String name : near) {
            due.faulty(name + " 1 1;", 2, 0);
            due.faulty("patch;" + name, 2, 6);
        }
    }

    private static void tokensThatCanNotStandThere() {
        due.sentence("FAULT 2 a TOKEN that can not stand there");
        due.faulty(";", 2, 0);
        due.faulty("1", 2, 0);
        due.faulty("row;", 2, 3);
        due.faulty("row a 1;", 2, 4);
        due.faulty("row 1;", 2, 5);
        due.faulty("row 1 a;", 2, 6);
        due.faulty("row 1 1 1;", 2, 8);
        due.faulty("row 1 1 a;", 2, 8);
        due.faulty("patch a;", 2, 6);
        due.faulty("patch patch;", 2, 6);
        due.faulty("patch;patch;gives;", 2, 17);
        due.faulty("patch;patch;gives a 1;", 2, 18);
        due.faulty("patch;patch;gives 0;", 2, 19);
        due.faulty("patch;patch;gives 0 a;", 2, 20);
        due.faulty("patch;patch;gives 0 1 0;", 2, 22);
        due.faulty("apart;", 2, 5);
        due.faulty("apart a;", 2, 6);
        due.faulty("apart 1 1;", 2, 8);
        due.faulty("quarry a b 1;", 2, 9);
        due.faulty("quarry a 1 b;", 2, 11);
        due.faulty("quarry a 1 1 1;", 2, 13);
        due.faulty("book aaaa aaaa 111 aaaa;", 2, 15);
        due.faulty("book aaaa aaaa aaaa aaaa 1;", 2, 25);
    }

    private static void theEnd() {
        due.sentence("FAULT 2 (.. or the end: the length)");
        String[] open = {"row", "row 1", "row 1 1", "patch", "patch;patch 0", "patch;patch;gives", "patch;patch;gives 0",
            "patch;patch;gives 0 1", "apart", "apart 1", "quarry", "quarry a", "quarry a 1", "quarry a 1 1", "book",
            "book aaaa", "book aaaa aaaa", "book aaaa aaaa aaaa", "book aaaa aaaa aaaa aaaa"};
        for (String text : open) {
            due.faulty(text, 2, text.length());
            due.faulty(text + " ", 2, text.length() + 1);
            due.faulty(text + " ".repeat(400 - text.length()), 2, 400);
        }
    }

    private static void theFirstMet() {
        due.sentence("FAULTS, the first met as it is read");
        due.faulty("row 0 0;", 3, 4);
        due.faulty("row 1 0 ?", 3, 6);
        due.faulty("z;row 0 1;", 2, 0);
        due.faulty("apart 1;row 0 1;apart 2;", 3, 12);
        due.faulty("apart 1;apart 2;row 0 1;", 4, 8);
        due.faulty("patch;patch 0 0 9;", 4, 14);
        due.faulty("patch;patch 9 0 0;", 3, 12);
        due.faulty("patch;patch;gives 0 1;gives 0 1 ?", 4, 30);
        due.faulty("quarry g 100 0;", 3, 7);
        due.faulty("book aaag aaah aaaa aaaa;", 3, 5);
    }

    private static void aTokenIsReadWhenTheOneBeforeIsTaken() {
        due.sentence("FAULTS: (a TOKEN is read when the one before has been taken)");
        due.faulty("z ?", 2, 0);
        due.faulty("z?", 2, 0);
        due.faulty("row 0?", 3, 4);
        due.faulty("row 1000?", 1, 4);
        due.faulty("apart 1;apart?", 4, 8);
        due.faulty("patch;".repeat(12) + "patch?", 5, 72);
        due.faulty("patch;".repeat(12) + "row?", 5, 72);
        due.faulty(BOOK.repeat(4) + "book?", 5, 100);
        due.faulty("quarry a 1 1;quarry a?", 4, 20);
        due.faulty("quarry g?", 3, 7);
        due.faulty("book aaa?", 3, 5);
        due.faulty("patch 0?", 3, 6);
        due.faulty("row 1?", 1, 5);
    }

    // ---- what a text leaves

    private static void inPlaceOfWhatThereWas() {
        due.sentence("A text that is taken tells all, in place of what there was");
        BeastFloor x = State.FULL.make();
        due.is("text()", x.text(), 2);
        due.is("told(0)", x.told(0), 1);
        due.is("thing(0, 0)", x.thing(0, 0), 7);
        due.is("thing(1, 0)", x.thing(1, 0), -1);
        due.is("told(2)", x.told(2), 3);
        due.is("rank(0, 1)", x.rank(0, 1), 0);
        due.is("orders()", x.orders(), 1);
        due.is("hands(0)", x.hands(0), 1);
        // What a text has told, the next one may tell again: nothing of it is a FAULT.
        BeastFloor y = new BeastFloor();
        String text = "patch;".repeat(12) + "gives 1 0;apart 4;quarry a 5 6;" + BOOK.repeat(4);
        for (int i = 0; i < 4; i++) {
            due.is("text() of the same, time " + i, Due.tell(y, text), 19);
            due.is("told(0)", y.told(0), 12);
            due.is("told(1)", y.told(1), 4);
            due.is("thing(1, 2)", y.thing(1, 2), 1);
        }
        due.is("text() of a RING", Due.tell(y, "patch;patch;gives 0 1;gives 1 0;"), 4);
        due.is("orders()", y.orders(), -2);
        due.is("text() without one", Due.tell(y, "patch;patch;gives 0 1;"), 3);
        due.is("orders()", y.orders(), 1);
        due.is("rings(0)", y.rings(0), 0);
    }

    private static void ordersOfTheNewText() {
        due.sentence("A text that is taken tells all, in place of what there was (ORDERS)");
        BeastFloor x = due.told("patch;".repeat(6));
        due.is("orders()", x.orders(), 720);
        due.is("likely(0, 1, 1)", x.likely(0, 1, 1), 2);
        String[] texts = {"patch;patch;patch;", "patch;patch 0;patch 0;", "patch;patch;patch;patch;gives 0 3;", "patch;", ""};
        long[] orders = {6, 2, 12, 1, 1};
        for (int i = 0; i < texts.length; i++) {
            Due.tell(x, texts[i]);
            due.is("orders() of " + texts[i], x.orders(), orders[i]);
            due.is("orders() again", x.orders(), orders[i]);
        }
        Due.tell(x, "patch;patch;");
        due.is("order(1, 0) without orders() before", x.order(1, 0), 1);
        due.is("order(2, 0)", x.order(2, 0), -1);
        Due.tell(x, "patch;patch;gives 0 1;");
        due.is("likely(1, 0, 0) without orders() before", x.likely(1, 0, 0), 1);
        due.is("likely(1, 0, 1)", x.likely(1, 0, 1), 1);
    }

    private static void patternsOfTheNewText() {
        due.sentence("A text that is taken tells all, in place of what there was (PATTERNS)");
        BeastFloor x = due.told("book aaaa aaaa aaaa aaaa;book bbbb bbbb bbbb bbbb;");
        x.put(0, 0);
        due.is("copy AGREES", x.copy(0, 0, 1, 0, 0), 1);
        Due.tell(x, "book cccc xxxx xxxx xxxx;");
        due.is("told(1)", x.told(1), 1);
        due.is("copy of the new one AGREES", x.copy(0, 0, 1, 0, 0), 0);
        due.is("copy of the new one CLASHES", x.copy(0, 0, 1, 0, 1), 1);
        due.is("copy of the new one would fill", x.copy(0, 0, 1, 0, 2), 3);
        due.is("copy of one that is no longer", x.copy(1, 0, 1, 0, 0), -1);
        Due.tell(x, "patch;");
        due.is("told(1)", x.told(1), 0);
        due.is("best(0)", x.best(0), -4);
        Due.tell(x, "book axxx xxxx xxxx xxxx;");
        due.is("told(1)", x.told(1), 1);
        due.is("copy would fill", x.copy(0, 0, 1, 36, 2), 1);
        due.is("pattern(0, 0, 1)", x.pattern(0, 0, 1), -4);
    }

    private static void afterAFaultInTheMidst() {
        due.sentence("A text that is taken tells all; of one that has a FAULT nothing is told, not what came ahead of it");
        BeastFloor x = new BeastFloor();
        String faulty = "patch;row 9 9;patch 0 1;gives 0 2;apart 3;quarry a 5 6;" + BOOK + "?";
        for (int i = 0; i < 3; i++) {
            due.is("text() with a FAULT", Due.tell(x, faulty), -10 - (faulty.length() - 1));
            due.is("text() of others", Due.tell(x, "row 1 1;row 2 2;row 3 3;apart 4;quarry b 7 8;"), 5);
            due.is("told(0)", x.told(0), 3);
            due.is("told(1)", x.told(1), 0);
            due.is("told(2)", x.told(2), 4);
            due.is("told(10)", x.told(10), 1);
            due.is("told(21)", x.told(21), 8);
            for (int t = 0; t < 3; t++) {
                due.is("thing(" + t + ", 0)", x.thing(t, 0), t + 1);
                due.is("thing(" + t + ", 1)", x.thing(t, 1), t + 1);
                due.is("thing(" + t + ", 2)", x.thing(t, 2), 0);
                due.is("thing(" + t + ", 3)", x.thing(t, 3), 0);
            }
        }
    }

    private static void whatNoLineTells() {
        due.sentence("(what no line tells is as at first ..)");
        BeastFloor x = new BeastFloor();
        Due.tell(x, "row 9 9;apart 0;quarry a 0 1;quarry f 99 99;" + BOOK);
        due.is("text() of nothing", x.text(), 0);
        due.is("told(0)", x.told(0), 0);
        due.is("told(1)", x.told(1), 0);
        due.is("told(2)", x.told(2), 10);
        for (int c = 0; c < 6; c++) {
            due.is("told(10 + " + c + ")", x.told(10 + c), 1);
            due.is("told(20 + " + c + ")", x.told(20 + c), 10);
        }
        Due.tell(x, "patch;patch;" + BOOK);
        due.is("thing(0, 0) of a PATCH where a ROW was", x.thing(0, 0), 0);
        due.is("thing(0, 1)", x.thing(0, 1), 0);
        due.is("pattern(0, 0, 8)", x.pattern(0, 0, 8), -4);
        // ROWS where PATCHES were that cut others, and gave way to others.
        Due.tell(x, "patch;patch 0;patch 0 1;gives 0 1;");
        Due.tell(x, "row 1 1;row 1 1;row 1 1;");
        for (int i = 0; i < 2; i++) {
            for (int t = 0; t < 3; t++) {
                due.is("thing(" + t + ", 2)", x.thing(t, 2), 0);
            }
            Due.tell(x, "row 1 1;row 1 1;row 1 1;");
        }
    }

    private static void whatStays() {
        due.sentence("(.. THE FLOOR, the BORDER, what fill() FILLED stay); SHEETS stay");
        // All that no text tells, seen without THE TAPE and without the book, which says what may be FILLED.
        Seen.Call same = x -> {
            x.end(0);
            return x.text();
        };
        BeastFloor told = State.RICH.make();
        BeastFloor was = State.RICH.make();
        due.is("text()", same.on(told), 0);
        due.holds("THE FLOOR stays", Due.floor(told).equals(Due.floor(was)));
        due.is("count(1): the BORDER stays", told.count(1), 3);
        due.is("slips(7, 0)", told.slips(7, 0), was.slips(7, 0));
        due.is("knot(205): above the latest one, as before", told.knot(205), -1);
        due.is("torn() stays", told.torn(), 2);
        due.is("write(3, 0, 0): nothing yet", told.write(3, 0, 0), -11);
        due.is("write(2, 5, 0): 5 CELLS yet", told.write(2, 5, 0), -12);
        int undone = was.undo();
        due.holds("RICH has some that are FILLED", undone > 0);
        due.is("undo()", told.undo(), undone);
        due.holds("THE FLOOR undone", Due.floor(told).equals(Due.floor(was)));
        due.is("read of a SHEET that stays", told.read(0, 0, 27, 0, 1), 1);
        due.is("at(0)", told.at(0), 5);
    }

    private static void whatWasToldStaysByAFault() {
        due.sentence("4: (a FAULT) that which was told stays");
        String[] faulty = {"?", "patch;z", "row 1 1;row 0 1;", "apart 1;quarry a 9 9;apart 1;", "patch;".repeat(13),
            BOOK.repeat(4) + "row 3 3;gives 0 0;", BOOK.repeat(5), "patch"};
        for (State state : State.values()) {
            String was = Seen.ofBut(state, Seen.NOTHING);
            for (String text : faulty) {
                Seen.Call call = x -> {
                    x.end(0);
                    return Due.tell(x, text);
                };
                due.holds(state + ": text() of '" + text + "' has a FAULT", call.on(state.make()) <= -10);
                due.holds(state + ": all stays by '" + text + "'", Seen.ofBut(state, call).equals(was));
            }
        }
    }
}
