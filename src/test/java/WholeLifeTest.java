/** "An object is used for at most 512 calls after it has been made": each call hundreds of times, each answer as due. */
public final class WholeLifeTest {
    private static final Bounds due = new Bounds();
    private static final int LIFE = 512;

    public static void main(String[] args) {
        asks();
        constants();
        feeds();
        ends();
        texts();
        puts();
        lays();
        knots();
        wipes();
        fillsAndUndoes();
        mixes();
        sheets();
        writes();
        reads();
        togethers();
        due.end();
    }

    private static void constants() {
        due.sentence("Answers: BAD -1 .. STATE -2 .. FULL -3, NONE -4");
        due.is("BAD", BeastFloor.BAD, -1);
        due.is("STATE", BeastFloor.STATE, -2);
        due.is("FULL", BeastFloor.FULL, -3);
        due.is("NONE", BeastFloor.NONE, -4);
    }

    /** A call that changes nothing answers the same each time, and the object is then as it was. */
    private static void same(String call, Seen.Call c) {
        for (State state : State.values()) {
            BeastFloor x = state.make();
            long first = c.on(x);
            long wrong = 0;
            for (int i = 1; i < 300; i++) {
                wrong += c.on(x) == first ? 0 : 1;
            }
            due.is(state + ": " + call + " 300 times", wrong, 0);
            due.is(state + ": " + call + " of another object", c.on(state.make()), first);
            due.holds(state + ": " + call + " changes nothing", Seen.of(state, c).equals(Seen.of(state, Seen.NOTHING)));
        }
    }

    private static void asks() {
        due.sentence("calls that only ask");
        same("fault()", BeastFloor::fault);
        same("told(0)", x -> x.told(0));
        same("thing(3, 3)", x -> x.thing(3, 3));
        same("pattern(1, 5, 3)", x -> x.pattern(1, 5, 3));
        same("at(33)", x -> x.at(33));
        same("ahead(0, 3)", x -> x.ahead(0, 3));
        same("rings(0)", x -> x.rings(0));
        same("rings(1)", x -> x.rings(1));
        same("rank(3, 1)", x -> x.rank(3, 1));
        same("orders()", BeastFloor::orders);
        same("likely(3, 1, 0)", x -> x.likely(3, 1, 0));
        same("begins(0)", x -> x.begins(0));
        same("order(1, 2)", x -> x.order(1, 2));
        same("size(0, 1)", x -> x.size(0, 1));
        same("sure(0, 1)", x -> x.sure(0, 1));
        same("hands(10)", x -> x.hands(10));
        same("slips(10, 2)", x -> x.slips(10, 2));
        same("knots()", BeastFloor::knots);
        same("fits(99, 9, 1, 2)", x -> x.fits(99, 9, 1, 2));
        same("copy(1, 2, 1, 9, 0)", x -> x.copy(1, 2, 1, 9, 0));
        same("best(3)", x -> x.best(3));
        same("copies(1, 2)", x -> x.copies(1, 2));
        same("symmetries()", BeastFloor::symmetries);
        same("may(31, 2)", x -> x.may(31, 2));
        same("lost(0)", x -> x.lost(0));
        same("stones(0)", x -> x.stones(0));
        same("works(1)", x -> x.works(1));
        same("seams()", BeastFloor::seams);
        same("together(2)", x -> x.together(2));
        same("torn()", BeastFloor::torn);
        same("count(0)", x -> x.count(0));
    }

    private static void feeds() {
        due.sentence("feed, 512 times");
        BeastFloor x = new BeastFloor();
        for (int i = 1; i <= LIFE; i++) {
            due.is("feed, time " + i, x.feed(0x70617463683b2020L), i <= 50 ? 8 * i : -3);
        }
    }

    private static void ends() {
        due.sentence("end, 255 times, each behind feed");
        BeastFloor x = new BeastFloor();
        for (int i = 1; i < LIFE / 2; i++) {
            due.is("feed", x.feed(0), 8);
            due.is("end", x.end(0), 8);
        }
    }

    private static void texts() {
        due.sentence("text, 256 times, each behind feed");
        BeastFloor x = new BeastFloor();
        for (int i = 0; i < LIFE / 2; i++) {
            x.feed(i % 3 == 2 ? 0x70617463683f2020L : 0x70617463683b2020L);
            due.is("text, time " + i, x.text(), i % 3 == 2 ? -15 : 1);
        }
        BeastFloor empty = new BeastFloor();
        for (int i = 0; i < LIFE; i++) {
            due.is("text of nothing", empty.text(), 0);
        }
    }

    private static void puts() {
        due.sentence("put, 512 times");
        BeastFloor x = new BeastFloor();
        for (int i = 0; i < LIFE; i++) {
            due.is("put, time " + i, x.put(i % 64, i / 64 % 7 - 1), i < 64 ? -1 : (i / 64 - 1) % 7 - 1);
        }
    }

    private static void lays() {
        due.sentence("lay, 500 times");
        BeastFloor x = due.told("book aaaa aaaa aaaa aaaa;");
        for (int i = 0; i < 500; i++) {
            due.is("lay, time " + i, x.lay(0, i % 8, 1, 36), i == 0 ? 16 : 0);
        }
    }

    private static void knots() {
        due.sentence("knot, 512 times");
        BeastFloor x = new BeastFloor();
        for (int i = 0; i < LIFE; i++) {
            due.is("knot, time " + i, x.knot(i), i < 24 ? i + 1 : -3);
        }
    }

    private static void wipes() {
        due.sentence("wipe, 256 times, each behind knot");
        BeastFloor x = new BeastFloor();
        for (int i = 0; i < LIFE / 2; i++) {
            due.is("knot, time " + i, x.knot(999 - i), 1);
            due.is("wipe, time " + i, x.wipe(), 1);
        }
    }

    private static void fillsAndUndoes() {
        due.sentence("fill and undo, 255 times each");
        BeastFloor x = new BeastFloor();
        x.put(1, 4);
        for (int i = 0; i < 255; i++) {
            due.is("fill, time " + i, x.fill(), 7);
            due.is("undo, time " + i, x.undo(), 7);
        }
        due.is("undo", x.undo(), -2);
    }

    private static void mixes() {
        due.sentence("mix, 440 times");
        BeastFloor x = new BeastFloor();
        x.put(0, 3);
        // To the next place around, turned by a quarter: after four times as it was.
        for (int i = 0; i < 440; i++) {
            due.is("mix, time " + i, x.mix(64 + 16 * 3 + 0 + 2, 85), 1);
        }
        due.is("at(0)", x.at(0), 3);
        due.is("count(0)", x.count(0), 63);
    }

    private static void sheets() {
        due.sentence("sheet, 511 times");
        BeastFloor x = new BeastFloor();
        for (int i = 0; i < LIFE - 1; i++) {
            due.is("sheet, time " + i, x.sheet(0, i % 3, i % 65), 1);
        }
        due.is("count(5)", x.count(5), (LIFE - 2) % 65);
    }

    private static void writes() {
        due.sentence("write, 500 times");
        BeastFloor x = new BeastFloor();
        x.sheet(2, 0, 64);
        for (int i = 0; i < 500; i++) {
            due.is("write, time " + i, x.write(2, i % 65, i % 7 - 1), i % 65 == 64 ? -12 : 1);
        }
        due.is("read", x.read(2, 0, 0, 0, 5), 5);
        due.is("at(0)", x.at(0), 455 % 7 - 1);
        due.is("at(4)", x.at(4), 459 % 7 - 1);
    }

    private static void reads() {
        due.sentence("read, 250 times, each ahead of torn");
        BeastFloor x = new BeastFloor();
        x.sheet(2, 0, 64);
        for (int i = 0; i < 250; i++) {
            due.is("read, time " + i, x.read(2, 0, i % 64, 0, 64), 64 - i % 64);
            due.is("torn", x.torn(), i % 64 == 0 ? 0 : 2);
        }
    }

    private static void togethers() {
        due.sentence("together, 255 times, each behind put");
        BeastFloor x = new BeastFloor();
        x.put(63, 0);
        for (int i = 0; i < 255; i++) {
            x.put(0, i % 2 == 0 ? 0 : -1);
            due.is("together, time " + i, x.together(0), i % 2 == 0 ? 1 : 0);
        }
    }
}
