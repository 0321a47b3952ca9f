/** Boundary cases of size, sure, hands: promises 19 to 21. */
public final class HandsBoundsTest {
    private static final Bounds due = new Bounds();

    public static void main(String[] args) {
        lowestTerms();
        sizeIsBad();
        sizeOfAPatch();
        moreThanApart();
        theLeastAndTheGreatestApart();
        sureIsBad();
        sureOfAPatch();
        sureOfOneAndTheSame();
        howManyHands();
        rowsOfAHand();
        theLeastSizeFirst();
        ofSeveralTheLeastNumber();
        handsIsBad();
        aHandThatThereIsNot();
        due.end();
    }

    private static void size(int cubes, int length, int top, int bottom) {
        BeastFloor x = due.told("row " + cubes + " " + length + ";");
        due.is("numerator of " + length + " by " + cubes, x.size(0, 0), top);
        due.is("denominator of " + length + " by " + cubes, x.size(0, 1), bottom);
    }

    private static void lowestTerms() {
        due.sentence("19: SIZE of a ROW: 0 the numerator, 1 the denominator (in lowest terms)");
        size(1, 1, 1, 1);
        size(99, 999, 111, 11);
        size(1, 999, 999, 1);
        size(99, 1, 1, 99);
        size(99, 99, 1, 1);
        size(99, 990, 10, 1);
        size(98, 999, 999, 98);
        size(2, 998, 499, 1);
        size(96, 64, 2, 3);
    }

    private static void sizeIsBad() {
        due.sentence("19: BAD");
        due.outside(State.NEW, "size(#, 0)", (x, t) -> x.size(t, 0), -1, 0, -1);
        due.outside(State.RICH, "size(#, 0)", (x, t) -> x.size(t, 0), -1, 0, 4);
        due.outside(State.FULL, "size(#, 1)", (x, t) -> x.size(t, 1), -1, 0, 11);
        due.outside(State.RICH, "size(0, #)", (x, what) -> x.size(0, what), -1, 0, 1);
        due.is("the last of 12", due.told("patch;".repeat(11) + "row 2 5;").size(11, 0), 5);
    }

    private static void sizeOfAPatch() {
        due.sentence("19: BAD: also a PATCH");
        due.refusedWith(State.RICH, "size(#, 0)", (x, t) -> x.size(t, 0), -1, 2, 4);
        due.refusedWith(State.RICH, "size(#, 1)", (x, t) -> x.size(t, 1), -1, 2, 4);
        due.refused(State.FULL, "size(11, 0)", x -> x.size(11, 0), -1);
    }

    private static void sure(String text, int want) {
        BeastFloor x = due.told(text);
        due.is("sure(0, 1) of " + text, x.sure(0, 1), want);
        due.is("sure(1, 0) of " + text, x.sure(1, 0), want);
    }

    private static void moreThanApart() {
        due.sentence("SURE of two hands, if their SIZES differ by more than apart by 10 (a fraction: not cut)");
        sure("row 10 10;row 10 20;", 0);
        sure("row 10 10;row 10 21;", 1);
        sure("row 10 10;row 10 19;", 0);
        // 1 and 2 and 1 by 99: cut it would be 2.
        sure("row 1 1;row 99 198;", 0);
        sure("row 1 1;row 99 199;", 1);
        // 1 by 98 and 1 by 99 more than 1: beyond by 1 by 9702.
        sure("row 99 100;row 98 197;", 1);
        sure("row 98 99;row 99 197;", 0);
        sure("apart 3;row 10 10;row 10 13;", 0);
        sure("apart 3;row 10 10;row 10 14;", 1);
        sure("apart 1;row 20 20;row 20 22;", 0);
        sure("apart 1;row 20 20;row 20 23;", 1);
    }

    private static void theLeastAndTheGreatestApart() {
        due.sentence("apart: 0 to 99, as SIZES are told apart by it");
        sure("apart 0;row 1 1;row 99 99;", 0);
        sure("apart 0;row 99 98;row 98 97;", 1);
        sure("apart 99;row 10 1;row 10 100;", 0);
        sure("apart 99;row 10 1;row 10 101;", 1);
        sure("apart 99;row 99 999;row 1 999;", 1);
        sure("apart 99;row 99 1;row 1 999;", 1);
    }

    private static void sureIsBad() {
        due.sentence("20: BAD");
        due.outside(State.NEW, "sure(#, 1)", (x, a) -> x.sure(a, 1), -1, 0, -1);
        due.outside(State.RICH, "sure(#, 1)", (x, a) -> x.sure(a, 1), -1, 0, 4);
        due.outside(State.RICH, "sure(1, #)", (x, b) -> x.sure(1, b), -1, 0, 4);
        due.outside(State.FULL, "sure(#, 1)", (x, a) -> x.sure(a, 1), -1, 0, 11);
        due.outside(State.FULL, "sure(1, #)", (x, b) -> x.sure(1, b), -1, 0, 11);
    }

    private static void sureOfAPatch() {
        due.sentence("20: BAD: also a PATCH");
        due.refused(State.RICH, "sure(0, 2)", x -> x.sure(0, 2), -1);
        due.refused(State.RICH, "sure(2, 0)", x -> x.sure(2, 0), -1);
        due.refused(State.RICH, "sure(2, 4)", x -> x.sure(2, 4), -1);
    }

    private static void sureOfOneAndTheSame() {
        due.sentence("20: BAD: also .. one and the same");
        due.refusedWith(State.RICH, "sure(#, #)", (x, t) -> x.sure(t, t), -1, 0, 1, 2, 3, 4, 5, -1);
    }

    private static void howManyHands() {
        due.sentence("21: HANDS: how many (what 0)");
        due.answers(State.NEW, "hands(0)", x -> x.hands(0), 0);
        due.is("of PATCHES alone", due.told("patch;patch;").hands(0), 0);
        due.is("of one ROW", due.told("row 1 1;").hands(0), 1);
        due.is("of 12 like ones", due.told("row 3 7;".repeat(12)).hands(0), 1);
        StringBuilder b = new StringBuilder("apart 99;");
        for (int t = 0; t < 12; t++) {
            b.append("row 1 ").append(1 + 10 * t).append(';');
        }
        due.is("of 12 just beyond apart", due.told(b.toString()).hands(0), 12);
        due.is("the bound itself is one hand", due.told("row 1 1;row 1 2;").hands(0), 1);
        due.is("beyond it are two", due.told("row 10 10;row 10 21;").hands(0), 2);
        due.is("a chain of like ones is no hand", due.told("row 1 1;row 1 2;row 1 3;").hands(0), 2);
    }

    private static void rowsOfAHand() {
        due.sentence("21: 10 and i: ROWS of hand i (bits)");
        due.is("the only one", due.told("patch;row 1 1;").hands(10), 2);
        due.is("all 12", due.told("row 3 7;".repeat(12)).hands(10), 4095);
        StringBuilder b = new StringBuilder("apart 99;");
        for (int t = 0; t < 12; t++) {
            b.append("row 1 ").append(1 + 10 * t).append(';');
        }
        BeastFloor x = due.told(b.toString());
        for (int i = 0; i < 12; i++) {
            due.is("hands(" + (10 + i) + ")", x.hands(10 + i), 1 << i);
        }
    }

    private static void theLeastSizeFirst() {
        due.sentence("HANDS: the ROW of the least SIZE has with it all that it can, then likewise of those that are left");
        // 1, 2, 3: of the two ways the 2 is with the 1.
        BeastFloor x = due.told("row 1 3;row 1 2;row 1 1;");
        due.is("hands(10)", x.hands(10), 4 + 2);
        due.is("hands(11)", x.hands(11), 1);
        // 1, 2, 3, 4: not the 2 and the 3 together.
        BeastFloor y = due.told("row 1 4;row 1 2;row 1 3;row 1 1;");
        due.is("hands(0)", y.hands(0), 2);
        due.is("hands(10)", y.hands(10), 8 + 2);
        due.is("hands(11)", y.hands(11), 4 + 1);
        // 100 by 99 is less than 99 by 98.
        BeastFloor z = due.told("apart 0;row 98 99;row 99 100;");
        due.is("hands(10): the least by a fraction", z.hands(10), 2);
        due.is("hands(11)", z.hands(11), 1);
    }

    private static void ofSeveralTheLeastNumber() {
        due.sentence("HANDS: (of several the least number)");
        BeastFloor x = due.told("apart 0;row 2 4;row 1 1;row 3 3;row 1 2;");
        due.is("hands(10)", x.hands(10), 2 + 4);
        due.is("hands(11)", x.hands(11), 1 + 8);
    }

    private static void handsIsBad() {
        due.sentence("21: BAD");
        due.outside(State.RICH, "hands(#)", BeastFloor::hands, -1, 0, 0);
        due.refusedWith(State.RICH, "hands(#)", BeastFloor::hands, -1, 2, 9, -10, 22, 42, Integer.MIN_VALUE + 10);
        due.outside(State.NEW, "hands(#)", BeastFloor::hands, -1, 0, 0);
    }

    private static void aHandThatThereIsNot() {
        due.sentence("21: BAD: also a hand that there is not");
        due.refusedWith(State.NEW, "hands(#)", BeastFloor::hands, -1, 10, 11, 21, 22);
        int hands = State.RICH.make().hands(0);
        due.holds("RICH has hands", hands > 0);
        due.holds("the last is there", State.RICH.make().hands(9 + hands) > 0);
        due.refusedWith(State.RICH, "hands(#)", BeastFloor::hands, -1, 10 + hands, 11 + hands, 21, 22);
        due.is("hands(10) of PATCHES alone", due.told("patch;").hands(10), -1);
        BeastFloor all = due.told("apart 0;row 1 1;row 1 2;row 1 3;row 1 4;row 1 5;row 1 6;row 1 7;row 1 8;row 1 9;row 1 10;"
            + "row 1 11;row 1 12;");
        due.is("hands(21)", all.hands(21), 2048);
        due.is("hands(22)", all.hands(22), -1);
    }
}
