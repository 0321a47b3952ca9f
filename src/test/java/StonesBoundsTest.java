/** Boundary cases of stones, works, mix, seams, together: promises 35 to 39. */
public final class StonesBoundsTest {
    private static final Bounds due = new Bounds();
    private static final int[] STAY = {0, 1, 2, 3};

    public static void main(String[] args) {
        cubesOfAColour();
        stonesIsBad();
        whatAllCost();
        days();
        daysInLowestTerms();
        worksIsBad();
        placesAndTurns();
        everyCellOfAPanel();
        placesAreBad();
        placesAllUnlike();
        turnsAreBad();
        seamsOfLostCells();
        eachSeam();
        sixteenSeams();
        theGreatestSum();
        howManyWays();
        theFirstPanels();
        theFirstTurns();
        putTogetherAgain();
        togetherChangesNothing();
        togetherIsBad();
        due.end();
    }

    private static BeastFloor painted(String text, int colour) {
        BeastFloor x = due.told(text);
        for (int cell = 0; cell < 64; cell++) {
            x.put(cell, colour);
        }
        return x;
    }

    // ---- stones, works

    private static void cubesOfAColour() {
        due.sentence("35: STONES: CUBES of a COLOUR (as many as CELLS)");
        for (int c = 0; c < 6; c++) {
            due.is("stones(" + c + ") of LOST CELLS", new BeastFloor().stones(c), 0);
            BeastFloor x = painted("", c);
            for (int other = 0; other < 6; other++) {
                due.is("stones(" + other + ") of " + c, x.stones(other), other == c ? 64 : 0);
            }
            x.put(63, -1);
            due.is("stones(" + c + ") without the last", x.stones(c), 63);
        }
    }

    private static void stonesIsBad() {
        due.sentence("35: BAD");
        for (State state : State.values()) {
            due.outside(state, "stones(#)", BeastFloor::stones, -1, 0, 5);
        }
    }

    private static void whatAllCost() {
        due.sentence("36: What all cost (what 0)");
        due.is("nothing", new BeastFloor().works(0), 0);
        due.is("64 at 1, which is not told", painted("", 0).works(0), 64);
        due.is("64 at 0", painted("quarry a 0 1;", 0).works(0), 0);
        due.is("64 at 99", painted("quarry f 99 1;", 5).works(0), 64 * 99);
        BeastFloor x = due.told("quarry a 1 1;quarry b 2 1;quarry c 4 1;quarry d 8 1;quarry e 16 1;quarry f 32 1;");
        for (int c = 0; c < 6; c++) {
            x.put(c, c);
            due.is("up to " + c, x.works(0), (2 << c) - 1);
        }
    }

    private static void works(BeastFloor x, long top, long bottom) {
        due.is("works(1)", x.works(1), top);
        due.is("works(2)", x.works(2), bottom);
    }

    private static void days() {
        due.sentence("36: DAYS: 1 the numerator, 2 the denominator (0 is 0 by 1)");
        works(new BeastFloor(), 0, 1);
        works(due.told("quarry a 1 99;"), 0, 1);
        works(painted("quarry a 1 1;", 0), 64, 1);
        works(painted("quarry a 1 99;", 0), 64, 99);
        BeastFloor one = due.told("quarry f 1 99;");
        one.put(63, 5);
        works(one, 1, 99);
        BeastFloor ten = new BeastFloor();
        ten.put(0, 2);
        works(ten, 1, 10);
    }

    private static void daysInLowestTerms() {
        due.sentence("36: DAYS: of each COLOUR CUBES by how many a day, summed (a fraction, in lowest terms)");
        works(painted("", 0), 32, 5);
        BeastFloor half = due.told("quarry a 1 2;quarry b 1 2;");
        half.put(0, 0);
        works(half, 1, 2);
        half.put(1, 1);
        works(half, 1, 1);
        half.put(2, 1);
        works(half, 3, 2);
        // The greatest denominator that there can be, with all COLOURS.
        BeastFloor most = due.told("quarry a 1 99;quarry b 1 98;quarry c 1 97;quarry d 1 95;quarry e 1 89;quarry f 1 83;");
        long bottom = 99L * 98 * 97 * 95 * 89 * 83;
        long top = 0;
        long[] daily = {99, 98, 97, 95, 89, 83};
        for (int c = 0; c < 6; c++) {
            most.put(c, c);
            top += bottom / daily[c];
        }
        works(most, top, bottom);
        // Divided down would be 0.
        due.holds("it is not cut", top < bottom);
    }

    private static void worksIsBad() {
        due.sentence("36: BAD");
        for (State state : State.values()) {
            due.outside(state, "works(#)", BeastFloor::works, -1, 0, 2);
        }
    }

    // ---- mix

    private static int figures(int a, int b, int c, int d) {
        return 64 * a + 16 * b + 4 * c + d;
    }

    private static int figure(int figures, int i) {
        return figures >> 6 - 2 * i & 3;
    }

    private static boolean unlike(int places) {
        int seen = 0;
        for (int i = 0; i < 4; i++) {
            seen |= 1 << figure(places, i);
        }
        return seen == 15;
    }

    /** Where the upper left CELL of a PANEL lies at a place, turned. */
    private static int corner(int place, int turn) {
        int[] first = {0, 4, 32, 36};
        int[] turned = {0, 3, 27, 24};
        return first[place] + turned[turn];
    }

    private static void placesAndTurns() {
        due.sentence("37: the PANEL of place i goes to place to(i) .. turned by quarters to the right (likewise, 0 to 3 each): 1");
        for (int places = 0; places < 256; places++) {
            for (int turns = 0; turns < 256 && unlike(places); turns++) {
                BeastFloor x = new BeastFloor();
                for (int i = 0; i < 4; i++) {
                    x.put(corner(i, 0), i);
                }
                int wrong = x.mix(places, turns) == 1 && x.count(0) == 60 ? 0 : 1;
                for (int i = 0; i < 4; i++) {
                    wrong += x.at(corner(figure(places, i), figure(turns, i))) == i ? 0 : 1;
                }
                due.is("mix(" + places + ", " + turns + ")", wrong, 0);
            }
        }
    }

    private static void everyCellOfAPanel() {
        due.sentence("LIFTED: 4 PANELS of 4 by 4 (0 upper left, 1 upper right, 2 lower left, 3 lower right)");
        for (int cell = 0; cell < 64; cell++) {
            BeastFloor x = new BeastFloor();
            x.put(cell, 2);
            x.mix(figures(1, 0, 3, 2), 0);
            due.is("side by side: " + cell, x.at(cell ^ 4), 2);
            x.mix(figures(2, 3, 0, 1), 0);
            due.is("up and down: " + cell, x.at(cell ^ 36), 2);
            // All turned by a quarter: in its PANEL row r, column c comes to row c, column 3 - r.
            int row = cell / 8 % 4;
            int column = cell % 4;
            int place = (cell ^ 36) - 8 * row - column;
            x.mix(27, 85);
            due.is("turned: " + cell, x.at(place + 8 * column + 3 - row), 2);
            due.is("count(0)", x.count(0), 63);
        }
    }

    private static void placesAreBad() {
        due.sentence("37: BAD (four figures to the base 4)");
        for (State state : State.values()) {
            due.outside(state, "mix(#, 0)", (x, places) -> x.mix(places, 0), -1, 0, 255);
        }
        // 27 and 256, 27 less 256, 27 in higher figures, and the least int with 27 in it.
        due.refusedWith(State.RICH, "mix(#, 0)", (x, places) -> x.mix(places, 0), -1, 27 + 256, 27 - 256, 27 << 4, 27 << 8,
            Integer.MIN_VALUE + 27);
        due.answers(State.RICH, "mix(27, 0): the least", x -> x.mix(27, 0), 1);
        due.answers(State.RICH, "mix(228, 0): the greatest", x -> x.mix(228, 0), 1);
    }

    private static void placesAllUnlike() {
        due.sentence("37: (.. all unlike)");
        int good = 0;
        for (int places = 0; places < 256; places++) {
            int answer = State.NEW.make().mix(places, 0);
            due.is("mix(" + places + ", 0)", answer, unlike(places) ? 1 : -1);
            good += answer == 1 ? 1 : 0;
        }
        due.is("24 ways", good, 24);
        due.refusedWith(State.RICH, "mix(#, 0)", (x, places) -> x.mix(places, 0), -1, 0, figures(0, 0, 2, 3), figures(0, 1, 2, 2),
            figures(3, 1, 2, 3), figures(1, 2, 1, 3), 255);
    }

    private static void turnsAreBad() {
        due.sentence("37: BAD (turns, likewise, 0 to 3 each)");
        for (State state : State.values()) {
            due.outside(state, "mix(27, #)", (x, turns) -> x.mix(27, turns), -1, 0, 255);
        }
        due.answers(State.RICH, "mix(27, 0)", x -> x.mix(27, 0), 1);
        due.answers(State.RICH, "mix(27, 255)", x -> x.mix(27, 255), 1);
        // Turned by three quarters and by one: as it was.
        BeastFloor x = State.FULL.make();
        String floor = Due.floor(x);
        x.mix(27, 255);
        due.holds("it is turned", !Due.floor(x).equals(floor));
        x.mix(27, 85);
        due.holds("it is turned back", Due.floor(x).equals(floor));
    }

    // ---- seams, together

    private static void seamsOfLostCells() {
        due.sentence("SEAM: 1, if both have the same COLOUR (LOST is none)");
        due.answers(State.NEW, "seams()", BeastFloor::seams, 0);
        BeastFloor x = new BeastFloor();
        x.put(3, 0);
        due.is("one of both", x.seams(), 0);
        x.put(4, 1);
        due.is("another one", x.seams(), 0);
        x.put(4, 0);
        due.is("the same", x.seams(), 1);
        due.is("together(0) of LOST CELLS", new BeastFloor().together(0), 0);
    }

    private static void eachSeam() {
        due.sentence("SEAM of two CELLS beside one another across PANELS");
        for (int cell = 0; cell < 64; cell++) {
            BeastFloor right = new BeastFloor();
            if (cell % 8 < 7) {
                right.put(cell, 0);
                right.put(cell + 1, 0);
                due.is("seams() of " + cell + " and the next", right.seams(), cell % 8 == 3 ? 1 : 0);
            }
            BeastFloor below = new BeastFloor();
            if (cell < 56) {
                below.put(cell, 5);
                below.put(cell + 8, 5);
                due.is("seams() of " + cell + " and the one below", below.seams(), cell / 8 == 3 ? 1 : 0);
            }
        }
        BeastFloor edge = new BeastFloor();
        edge.put(7, 0);
        edge.put(8, 0);
        edge.put(0, 0);
        edge.put(56, 0);
        due.is("not around the edge", edge.seams(), 0);
        BeastFloor across = new BeastFloor();
        across.put(27, 0);
        across.put(36, 0);
        due.is("not across the midst", across.seams(), 0);
    }

    private static void sixteenSeams() {
        due.sentence("38: SEAMS as THE FLOOR lies: how many of 16 are the same");
        due.is("all of one COLOUR", painted("", 3).seams(), 16);
        BeastFloor x = painted("", 3);
        x.put(27, 4);
        due.is("but for one in the midst", x.seams(), 14);
        x.put(27, -1);
        due.is("LOST", x.seams(), 14);
        x.put(27, 3);
        x.put(3, 4);
        due.is("but for one at the edge", x.seams(), 15);
    }

    private static void together(BeastFloor x, int sum, int places, int turns, int ways) {
        due.is("together(0)", x.together(0), sum);
        due.is("together(1)", x.together(1), places);
        due.is("together(2)", x.together(2), turns);
        due.is("together(3)", x.together(3), ways);
    }

    private static void theGreatestSum() {
        due.sentence("39: PUT TOGETHER: the sum (what 0)");
        due.is("the least", new BeastFloor().together(0), 0);
        due.is("the greatest", painted("", 1).together(0), 16);
        // As it lies there is none, but the corners may come side by side.
        BeastFloor x = new BeastFloor();
        x.put(0, 0);
        x.put(63, 0);
        due.is("seams()", x.seams(), 0);
        due.is("together(0)", x.together(0), 1);
    }

    private static void howManyWays() {
        due.sentence("39: how many ways have that sum (3): of all 24 times 256");
        together(new BeastFloor(), 0, 27, 0, 6144);
        together(painted("", 0), 16, 27, 0, 6144);
    }

    private static void theFirstPanels() {
        due.sentence("PUT TOGETHER: of several the first by PANELS at places 0, 1, 2, 3");
        // PANELS 0 and 3 with an a in a corner must lie side by side: 0 1 3 2 is the first of 16, each with 2 times 16 turns.
        BeastFloor x = new BeastFloor();
        x.put(corner(0, 0), 0);
        x.put(corner(3, 0), 0);
        // 0 at place 0 above 3 at place 2: the corner of 0 below left (3) or right (2), that of 3 above it.
        together(x, 1, figures(0, 1, 3, 2), figures(2, 0, 1, 0), 512);
        // As mix() tells it: which PANEL comes to a place, not where a PANEL goes.
        BeastFloor y = new BeastFloor();
        y.put(corner(0, 0), 0);
        y.put(corner(1, 0), 0);
        together(y, 1, figures(0, 1, 2, 3), figures(1, 0, 0, 0), 512);
    }

    private static void theFirstTurns() {
        due.sentence("PUT TOGETHER: .. then by their turns");
        for (int turn = 0; turn < 4; turn++) {
            BeastFloor x = new BeastFloor();
            x.put(corner(0, turn), 0);
            x.put(corner(1, turn), 0);
            // The corner of 0 comes above right, that of 1 above left; or else both below: the lower figure first.
            int above = Math.floorMod(1 - turn, 4);
            int below = Math.floorMod(2 - turn, 4);
            int first = Math.min(above, below);
            int second = first == above ? Math.floorMod(-turn, 4) : Math.floorMod(3 - turn, 4);
            together(x, 1, 27, figures(first, second, 0, 0), 512);
        }
    }

    private static void putTogetherAgain() {
        due.sentence("PUT TOGETHER: of all 24 times 256 ways that with the greatest sum of the 16 SEAMS");
        // Along the midst the COLOURS of both sides are the same, and no edge fits any other one as well.
        String floor = "dffaaccd dfabbaad adcccdab cbaeebdc cbaeebdc fdabbfaa cdeddabf facffdcb".replace(" ", "");
        for (int places = 0; places < 256; places++) {
            for (int turns = 0; turns < 256 && unlike(places); turns += 7) {
                BeastFloor x = new BeastFloor();
                Due.lay(x, floor);
                x.mix(places, turns);
                int best = leastOfFour(places, turns);
                due.is("together(0) behind mix(" + places + ", " + turns + ")", x.together(0), 16);
                due.is("together(1) behind mix(" + places + ", " + turns + ")", x.together(1), best >> 8);
                due.is("together(2) behind mix(" + places + ", " + turns + ")", x.together(2), best & 255);
                due.is("together(3) behind mix(" + places + ", " + turns + ")", x.together(3), 4);
            }
        }
    }

    /** The way back to the floor before mix(), or to that floor turned as a whole: the first of these four. */
    private static int leastOfFour(int places, int turns) {
        int[] around = {1, 3, 0, 2};
        int least = Integer.MAX_VALUE;
        int[] comesTo = STAY.clone();
        for (int quarter = 0; quarter < 4; quarter++) {
            int panels = 0;
            int back = 0;
            for (int i = 0; i < 4; i++) {
                // What lay at i lies at to(i), turned: it comes to where i is in the whole, and is turned on.
                int shift = 6 - 2 * comesTo[i];
                panels |= figure(places, i) << shift;
                back |= (quarter - figure(turns, i) & 3) << shift;
            }
            least = Math.min(least, panels << 8 | back);
            for (int i = 0; i < 4; i++) {
                comesTo[i] = around[comesTo[i]];
            }
        }
        return least;
    }

    private static void togetherChangesNothing() {
        due.sentence("39: which PANEL comes to place 0, 1, ..; THE FLOOR stays as it lies");
        BeastFloor x = State.FULL.make();
        String floor = Due.floor(x);
        int sum = x.together(0);
        int panels = x.together(1);
        int turns = x.together(2);
        due.holds("THE FLOOR stays", Due.floor(x).equals(floor));
        // Laid so by mix(), THE FLOOR has that sum.
        int[] to = STAY.clone();
        int[] turned = new int[4];
        for (int place = 0; place < 4; place++) {
            to[figure(panels, place)] = place;
            turned[figure(panels, place)] = figure(turns, place);
        }
        due.is("mix()", x.mix(figures(to[0], to[1], to[2], to[3]), figures(turned[0], turned[1], turned[2], turned[3])), 1);
        due.is("seams()", x.seams(), sum);
        due.is("together(0)", x.together(0), sum);
        // What is asked again behind a change is of the new floor.
        BeastFloor y = new BeastFloor();
        due.is("together(0)", y.together(0), 0);
        y.put(0, 0);
        y.put(63, 0);
        due.is("together(0) behind put()", y.together(0), 1);
        y.put(0, -1);
        due.is("together(0) behind put() of LOST", y.together(0), 0);
    }

    private static void togetherIsBad() {
        due.sentence("39: BAD");
        for (State state : State.values()) {
            due.outside(state, "together(#)", BeastFloor::together, -1, 0, 3);
        }
    }
}
