/** Boundary cases of a new object, of THE TAPE and its TOKENS: promises 1 to 5 and part 1 of the terms. */
public final class TapeBoundsTest {
    private static final Bounds due = new Bounds();
    private static final long BLANKS = 0x2020202020202020L;

    public static void main(String[] args) {
        noThingsAtFirst();
        noPatternsAtFirst();
        allCellsAreLostAtFirst();
        sheetsHaveNothingAtFirst();
        objectsShareNothing();
        eightBytesComeBehind();
        theHighestFirst();
        fullPast400();
        endKeepsTheFirstBytes();
        endIsBad();
        emptyTape();
        emptyThen();
        emptyByAFaultToo();
        placesOfFaults();
        faultOfTheLatestText();
        namesAreLetters();
        numbersAreFigures();
        theSign();
        everyOtherByte();
        asLongAsMayBe();
        anyNumberOfBlanks();
        aBlankBetweenTwoNames();
        aBlankBetweenTwoNumbers();
        elseNoneIsNeeded();
        numbersOfOneToThreeFigures();
        due.end();
    }

    // ---- promise 1

    private static void noThingsAtFirst() {
        due.sentence("1: No THINGS");
        BeastFloor x = new BeastFloor();
        due.is("told(0)", x.told(0), 0);
        due.is("thing(0, 0)", x.thing(0, 0), -1);
        due.is("count(2)", x.count(2), 0);
        due.is("count(3)", x.count(3), 0);
        due.is("told(2)", x.told(2), 10);
        for (int c = 0; c < 6; c++) {
            due.is("told(10 + " + c + ")", x.told(10 + c), 1);
            due.is("told(20 + " + c + ")", x.told(20 + c), 10);
        }
    }

    private static void noPatternsAtFirst() {
        due.sentence("1: no PATTERNS");
        BeastFloor x = new BeastFloor();
        due.is("told(1)", x.told(1), 0);
        due.is("pattern(0, 0, 0)", x.pattern(0, 0, 0), -1);
        due.is("copies(0, 0)", x.copies(0, 0), -1);
        due.is("lay(0, 0, 1, 0)", x.lay(0, 0, 1, 0), -1);
    }

    private static void allCellsAreLostAtFirst() {
        due.sentence("1: all CELLS are LOST");
        BeastFloor x = new BeastFloor();
        for (int cell = 0; cell < 64; cell++) {
            due.is("at(" + cell + ")", x.at(cell), -1);
        }
        due.is("count(0)", x.count(0), 64);
    }

    private static void sheetsHaveNothingAtFirst() {
        due.sentence("1: SHEETS have nothing");
        BeastFloor x = new BeastFloor();
        for (int k = 0; k < 4; k++) {
            due.is("write(" + k + ", 0, 0)", x.write(k, 0, 0), -11);
        }
        due.is("count(5)", x.count(5), -4);
        due.is("torn()", x.torn(), 0);
    }

    private static void objectsShareNothing() {
        due.sentence("1: A new object");
        String before = Seen.of(State.NEW, Seen.NOTHING);
        State.RICH.make();
        State.FULL.make().text();
        due.holds("is as new beside others", Seen.of(State.NEW, Seen.NOTHING).equals(before));
    }

    // ---- promises 2 and 3

    private static void eightBytesComeBehind() {
        due.sentence("2: Eight bytes come behind THE TAPE: how many it has");
        BeastFloor x = new BeastFloor();
        for (int i = 1; i <= 50; i++) {
            due.is("feed, time " + i, x.feed(BLANKS), 8 * i);
        }
        due.is("count(4)", x.count(4), 400);
        BeastFloor y = new BeastFloor();
        Due.feed(y, "pat");
        due.is("feed behind 3 bytes", y.feed(0x63683b2020202020L), 11);
        due.is("text()", y.text(), 1);
    }

    private static void theHighestFirst() {
        due.sentence("2: the highest first");
        for (int place = 0; place < 8; place++) {
            BeastFloor x = new BeastFloor();
            long v = BLANKS ^ 0xa0L << 56 - 8 * place;
            due.is("feed with byte 128 at " + place, x.feed(v), 8);
            due.is("text()", x.text(), -10 - place);
            due.is("fault()", x.fault(), 1);
        }
        long[] far = {Long.MIN_VALUE, Long.MAX_VALUE, -1L, 0L};
        for (long v : far) {
            BeastFloor x = new BeastFloor();
            due.is("feed(" + v + ")", x.feed(v), 8);
            due.is("text() of " + v, x.text(), -10);
            due.is("fault() of " + v, x.fault(), 1);
        }
    }

    private static void fullPast400() {
        due.sentence("2: FULL: more than 400");
        due.refused(State.FULL, "feed of blanks", x -> x.feed(BLANKS), -3);
        due.refused(State.FULL, "feed of the least long", x -> x.feed(Long.MIN_VALUE), -3);
        for (int n = 392; n <= 400; n++) {
            BeastFloor x = State.FULL.make();
            x.end(n);
            due.is("feed to " + (n + 8), x.feed(BLANKS), n == 392 ? 400 : -3);
            due.is("count(4)", x.count(4), n == 392 ? 400 : n);
        }
        BeastFloor x = State.FULL.make();
        x.end(393);
        x.feed(-1L);
        // The r of its last line alone is there: no byte of what was refused came behind it.
        due.is("text()", x.text(), -10 - 392);
        due.is("fault()", x.fault(), 2);
    }

    private static void endKeepsTheFirstBytes() {
        due.sentence("3: THE TAPE keeps its first n bytes: how many it had");
        BeastFloor x = new BeastFloor();
        due.is("end(0) of none", x.end(0), 0);
        Due.feed(x, "patch;;;");
        due.is("end(8) of 8", x.end(8), 8);
        due.is("end(7)", x.end(7), 8);
        due.is("end(6)", x.end(6), 7);
        due.is("text() of the first 6", x.text(), 1);
        due.is("end(0) of an empty one", x.end(0), 0);
        Due.feed(x, "patch;??");
        due.is("end(0)", x.end(0), 8);
        due.is("count(4)", x.count(4), 0);
        due.is("text() of none", x.text(), 0);
        // What was cut off is not read, in the midst of a TOKEN either.
        Due.feed(x, "row 1 123;");
        due.is("end(8)", x.end(8), 10);
        due.is("feed behind it", x.feed(0x3b20202020202020L), 16);
        due.is("text()", x.text(), 1);
        due.is("thing(0, 1)", x.thing(0, 1), 12);
        Due.feed(x, "row 1 1;");
        x.end(7);
        due.is("text() without its sign", x.text(), -17);
        BeastFloor full = State.FULL.make();
        due.is("end(400) of 400", full.end(400), 400);
        due.is("end(399)", full.end(399), 400);
        due.is("end(399) again", full.end(399), 399);
    }

    private static void endIsBad() {
        due.sentence("3: BAD (n above that, too)");
        due.outside(State.NEW, "end(#)", BeastFloor::end, -1, 0, 0);
        due.outside(State.RICH, "end(#)", BeastFloor::end, -1, 0, State.RICH_TAPE);
        due.outside(State.FULL, "end(#)", BeastFloor::end, -1, 0, 400);
        BeastFloor x = State.FULL.make();
        x.end(5);
        due.is("end(6) of 5, though there were more", x.end(6), -1);
    }

    // ---- promises 4 and 5

    private static void emptyTape() {
        due.sentence("4: THE TAPE tells all: how many lines");
        BeastFloor x = State.RICH.make();
        x.end(0);
        due.is("text() of nothing", x.text(), 0);
        due.is("told(0)", x.told(0), 0);
        due.is("told(1)", x.told(1), 0);
        due.is("fault()", x.fault(), 0);
        due.taken(" ".repeat(400), 0);
        due.taken("patch;" + " ".repeat(394), 1);
        due.taken(" ".repeat(394) + "patch;", 1);
        // As many lines as 400 bytes can hold: 12 THINGS, then gives of all pairs that are left room.
        StringBuilder most = new StringBuilder("patch;".repeat(12));
        int lines = 12;
        for (int a = 0; a < 10; a++) {
            for (int b = 0; b < 10 && most.length() + 9 <= 400; b++) {
                if (a != b) {
                    most.append("gives").append(a).append(' ').append(b).append(';');
                    lines++;
                }
            }
        }
        due.taken(most.toString(), lines);
    }

    private static void emptyThen() {
        due.sentence("4: THE TAPE (empty then ..)");
        BeastFloor x = State.FULL.make();
        due.is("text()", x.text(), 2);
        due.is("count(4)", x.count(4), 0);
        due.is("end(0)", x.end(0), 0);
        due.is("text() of what is left", x.text(), 0);
        due.is("feed anew", x.feed(BLANKS), 8);
    }

    private static void emptyByAFaultToo() {
        due.sentence("4: (empty then, by a FAULT, too)");
        String[] faulty = {"?", "z", "row 0 1;", "apart 1;apart 1;", "patch;".repeat(13)};
        for (int i = 0; i < 5; i++) {
            BeastFloor x = new BeastFloor();
            Due.feed(x, faulty[i] + " ".repeat(400 - faulty[i].length()));
            due.holds("text() has a FAULT", x.text() <= -10);
            due.is("fault()", x.fault(), i + 1);
            due.is("count(4)", x.count(4), 0);
            due.is("feed anew", x.feed(0x70617463683b2020L), 8);
            due.is("text() of what is fed anew", x.text(), 1);
        }
    }

    private static void placesOfFaults() {
        due.sentence("4: -10 less the place of its FAULT");
        due.faulty("?", 1, 0);
        due.faulty("?" + " ".repeat(399), 1, 0);
        due.faulty(" ".repeat(399) + "?", 1, 399);
        due.faulty(" ".repeat(399) + ";", 2, 399);
        due.faulty(" ".repeat(397) + "row", 2, 400);
        due.faulty("row" + " ".repeat(397), 2, 400);
        due.faulty(" ".repeat(396) + "1000", 1, 396);
    }

    private static void faultOfTheLatestText() {
        due.sentence("5: The FAULT of the latest text(); 0");
        BeastFloor x = new BeastFloor();
        due.is("fault() without a text", x.fault(), 0);
        String[] texts = {"?", "patch;", "z", "row 0 1;", "", "apart 1;apart 1;", "patch;".repeat(13), " "};
        int[] faults = {1, 0, 2, 3, 0, 4, 5, 0};
        for (int i = 0; i < texts.length; i++) {
            Due.tell(x, texts[i]);
            due.is("fault() of '" + texts[i] + "'", x.fault(), faults[i]);
        }
        Due.tell(x, "?");
        Due.feed(x, "patch;");
        x.end(99);
        due.is("fault() stays until the next text()", x.fault(), 1);
    }

    // ---- TOKENS

    private static void namesAreLetters() {
        due.sentence("TOKENS: NAMES (a .. z)");
        due.faulty("`", 1, 0);
        due.faulty("a", 2, 0);
        due.faulty("z", 2, 0);
        due.faulty("{", 1, 0);
        due.faulty("A", 1, 0);
        due.faulty("Z", 1, 0);
        due.faulty("row`1 1;", 1, 3);
        due.faulty("row{1 1;", 1, 3);
        due.faulty("rowa1 1;", 2, 0);
        due.faulty("rowz1 1;", 2, 0);
    }

    private static void numbersAreFigures() {
        due.sentence("TOKENS: NUMBERS (.. figures)");
        due.faulty("/", 1, 0);
        due.faulty("0", 2, 0);
        due.faulty("9", 2, 0);
        due.faulty(":", 1, 0);
        due.faulty("row 1/1;", 1, 5);
        due.faulty("row 1:1;", 1, 5);
        due.is("row 10 90", due.taken("row 10 90;", 1).size(0, 0), 9);
        due.faulty("row -1 1;", 1, 4);
        due.faulty("row +1 1;", 1, 4);
    }

    private static void theSign() {
        due.sentence("TOKENS: the sign ;");
        due.faulty(":", 1, 0);
        due.faulty(";", 2, 0);
        due.faulty("<", 1, 0);
        due.faulty("patch;;", 2, 6);
    }

    private static void everyOtherByte() {
        due.sentence("TOKENS: every other byte is no TOKEN");
        for (int sign = 0; sign < 256; sign++) {
            boolean token = sign >= 'a' && sign <= 'z' || sign >= '0' && sign <= '9' || sign == ';';
            String text = String.valueOf((char) sign);
            if (sign == ' ') {
                due.taken(text, 0);
                due.taken("patch;" + text, 1);
            } else {
                due.faulty(text, token ? 2 : 1, 0);
                due.faulty("patch; " + text, token ? 2 : 1, 7);
                due.faulty("row " + text, sign >= '1' && sign <= '9' ? 2 : token ? sign == '0' ? 3 : 2 : 1,
                    sign >= '1' && sign <= '9' ? 5 : 4);
            }
        }
    }

    private static void asLongAsMayBe() {
        due.sentence("TOKENS, each as long as may be");
        due.faulty("rowrow 1 1;", 2, 0);
        due.faulty("patchpatch;", 2, 0);
        due.faulty("r ow 1 1;", 2, 0);
        due.faulty("pa", 2, 0);
        due.faulty("a".repeat(400), 2, 0);
        due.faulty("patch;" + "b".repeat(394), 2, 6);
        due.faulty("row " + "1".repeat(396), 1, 4);
        due.is("thing(0, 0) of 12 in one", due.taken("row 12 345;", 1).thing(0, 0), 12);
    }

    private static void anyNumberOfBlanks() {
        due.sentence("TOKENS: any number of blanks (32) ahead of, between, behind them");
        due.taken("row 1 1;", 1);
        due.taken(" row 1 1;", 1);
        due.taken("row 1 1; ", 1);
        due.taken(" ".repeat(100) + "row" + " ".repeat(90) + "1" + " ".repeat(90) + "1" + " ".repeat(90) + ";"
            + " ".repeat(24), 1);
        due.faulty((char) 31 + "row 1 1;", 1, 0);
        due.faulty("row" + (char) 33 + "1 1;", 1, 3);
        due.faulty("row" + (char) 160 + "1 1;", 1, 3);
    }

    private static void aBlankBetweenTwoNames() {
        due.sentence("TOKENS: one at least between two NAMES");
        due.taken("quarry a 1 1;", 1);
        due.faulty("quarrya 1 1;", 2, 0);
        due.faulty("bookabcd abcd abcd abcd;", 2, 0);
        due.faulty("book abcdabcd abcd abcd;", 3, 5);
        due.taken("book abcd abcd abcd abcd;", 1);
    }

    private static void aBlankBetweenTwoNumbers() {
        due.sentence("TOKENS: one at least .. between two NUMBERS");
        due.faulty("row 11;", 2, 6);
        due.taken("row 1 1;", 1);
        due.faulty("patch;patch;patch 01;patch 012;patch 0;gives 21;", 3, 27);
        due.faulty("patch;patch;gives 10;", 3, 18);
        due.taken("patch;patch;gives 1 0;", 3);
    }

    private static void elseNoneIsNeeded() {
        due.sentence("TOKENS: else none is needed");
        due.taken("row1 1;patch0;row2 2;gives2 0;apart5;quarry a0 1;book aaaa aaaa aaaa aaaa;patch;", 8);
        due.faulty("row1 1patch;", 2, 6);
        due.faulty("row1a", 2, 4);
    }

    private static void numbersOfOneToThreeFigures() {
        due.sentence("TOKENS: NUMBERS (1 to 3 figures); 1: a NUMBER that is too long (its first byte)");
        due.taken("row 1 1;", 1);
        due.taken("row 01 01;", 1);
        due.is("thing(0, 1)", due.taken("row 099 999;", 1).thing(0, 1), 999);
        due.is("thing(0, 0)", due.taken("row 007 001;", 1).thing(0, 0), 7);
        due.faulty("row 0001 1;", 1, 4);
        due.faulty("row 1 0001;", 1, 6);
        due.faulty("row 1 1000;", 1, 6);
        due.faulty("row 4294967297 1;", 1, 4);
        due.faulty("row 18446744073709551617 1;", 1, 4);
        due.faulty("apart 0010;", 1, 6);
        due.faulty("quarry a 0001 1;", 1, 9);
        due.faulty("patch;patch 0000;", 1, 12);
        due.faulty("0000", 1, 0);
        due.faulty("999", 2, 0);
    }
}
