/** That Seen is not blind, else no refused call could be told from one that changes something; and what the states hold. */
public final class SeenTest {
    private static final Due due = new Due();

    public static void main(String[] args) {
        states();
        everyChangeIsSeen();
        due.end();
    }

    private static void states() {
        BeastFloor x = State.RICH.make();
        due.is("RICH: told(0)", x.told(0), 5);
        due.is("RICH: told(1)", x.told(1), 2);
        due.is("RICH: fault()", x.fault(), 3);
        due.is("RICH: torn()", x.torn(), 2);
        due.is("RICH: count(4)", x.count(4), State.RICH_TAPE);
        due.holds("RICH: some are LOST, some not", x.count(0) > 10 && x.count(0) < 54);
        due.holds("RICH: some are SURE", x.lost(0) > 0);
        due.holds("RICH: some were FILLED", x.undo() > 0);
        due.is("RING: rings(0)", State.RING.make().rings(0), 7);
        BeastFloor full = State.FULL.make();
        due.is("FULL: told(0)", full.told(0), 12);
        due.is("FULL: told(1)", full.told(1), 4);
        due.is("FULL: count(0)", full.count(0), 0);
        due.is("FULL: count(1)", full.count(1), 24);
        due.is("FULL: count(4)", full.count(4), 400);
        due.is("FULL: text()", full.text(), 2);
    }

    private static void seen(State state, String call, Seen.Call c) {
        due.holds(state + ": " + call + " is seen", !Seen.of(state, c).equals(Seen.of(state, Seen.NOTHING)));
    }

    private static void everyChangeIsSeen() {
        for (State state : State.values()) {
            due.holds(state + " is the same each time", Seen.of(state, Seen.NOTHING).equals(Seen.of(state, Seen.NOTHING)));
            for (int cell = 0; cell < 64; cell++) {
                int at = cell;
                seen(state, "put(" + cell + ")", x -> x.put(at, x.at(at) == 5 ? -1 : 5));
            }
            seen(state, "wipe() and knot()", x -> x.wipe() + x.knot(209));
            seen(state, "sheet(0, 1, 7)", x -> x.sheet(0, 1, 7));
            seen(state, "sheet(3, 1, 7)", x -> x.sheet(3, 1, 7));
            seen(state, "fill() and undo()", x -> x.fill() + x.undo() + x.put(0, 3));
        }
        changesOfRich();
        changesOfFull();
    }

    private static void changesOfRich() {
        seen(State.RICH, "feed", x -> x.feed(0));
        seen(State.RICH, "end(16)", x -> x.end(16));
        seen(State.RICH, "end(0)", x -> x.end(0));
        seen(State.RICH, "another byte on THE TAPE", x -> x.end(9) + x.feed(0x7061746368203b20L));
        seen(State.RICH, "text()", BeastFloor::text);
        seen(State.RICH, "text() with a FAULT", x -> x.feed(0) + x.text());
        seen(State.RICH, "lay", x -> x.lay(1, 0, 1, 27));
        seen(State.RICH, "knot(206)", x -> x.knot(206));
        seen(State.RICH, "wipe()", BeastFloor::wipe);
        seen(State.RICH, "fill()", BeastFloor::fill);
        seen(State.RICH, "undo()", BeastFloor::undo);
        seen(State.RICH, "put of what was FILLED, with the same", RICH_FILLED);
        seen(State.RICH, "mix to where it was: undo() is refused", x -> x.mix(27, 0));
        seen(State.RICH, "write(0, 63, 0)", x -> x.write(0, 63, 0));
        seen(State.RICH, "write(2, 0, 0)", x -> x.write(2, 0, 0));
        seen(State.RICH, "sheet(1, 2, 0)", x -> x.sheet(1, 2, 0));
        seen(State.RICH, "read of n 0: torn() is 0", x -> x.read(0, 0, 0, 0, 0));
    }

    /** A CELL that undo() would make LOST is put as it is. */
    private static final Seen.Call RICH_FILLED = x -> {
        BeastFloor undone = State.RICH.make();
        undone.undo();
        int cell = 0;
        while (cell < 63 && x.at(cell) == undone.at(cell)) {
            cell++;
        }
        return x.put(cell, x.at(cell));
    };

    private static void changesOfFull() {
        seen(State.FULL, "end(399)", x -> x.end(399));
        seen(State.FULL, "text()", BeastFloor::text);
        seen(State.FULL, "mix", x -> x.mix(228, 0));
        seen(State.FULL, "undo()", BeastFloor::undo);
        for (int k = 0; k < 4; k++) {
            int of = k;
            for (int i = 0; i < 63; i += 31) {
                int at = i;
                seen(State.FULL, "write(" + k + ", " + i + ", 5)", x -> x.write(of, at, 5));
            }
        }
    }
}
