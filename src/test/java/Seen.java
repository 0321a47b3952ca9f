/**
 * All that can be seen of an object, also what is seen only by changing it (THE TAPE, the SHEETS, what undo() undoes):
 * each look is at an object of its own, so that none is used for more than 512 calls.
 */
final class Seen {
    /** What a call does to an object, and what it answers. */
    interface Call {
        long on(BeastFloor x);
    }

    private static final int LOOKS = 11;
    private static final int TAPE = 10;

    /** As it is, before any further call. */
    static final Call NOTHING = x -> 0;

    static String of(State state, Call call) {
        return ofBut(state, call) + tapeOf(state, call);
    }

    /** All but THE TAPE and the FAULT of the latest text(). */
    static String ofBut(State state, Call call) {
        StringBuilder all = new StringBuilder();
        for (int look = 0; look < LOOKS; look++) {
            if (look != TAPE) {
                add(state, call, look, all);
            }
        }
        return all.toString();
    }

    private static String tapeOf(State state, Call call) {
        StringBuilder all = new StringBuilder();
        add(state, call, TAPE, all);
        return all.toString();
    }

    private static void add(State state, Call call, int look, StringBuilder all) {
        BeastFloor x = state.make();
        call.on(x);
        all.append("\nlook ").append(look).append(':');
        switch (look) {
            case 0: told(x, all); break;
            case 1: floor(x, all); break;
            case 2: ahead(x, all); break;
            case 3: orders(x, all); break;
            case 4: border(x, all); break;
            case 5: lost(x, all); break;
            case TAPE: tape(x, all); break;
            default: sheet(x, look - 6, all); break;
        }
    }

    private static void say(StringBuilder all, long answer) {
        all.append(' ').append(answer);
    }

    private static void told(BeastFloor x, StringBuilder all) {
        for (int what = 0; what < 3; what++) {
            say(all, x.told(what));
        }
        for (int c = 0; c < 6; c++) {
            say(all, x.told(10 + c));
            say(all, x.told(20 + c));
        }
        for (int t = 0; t < 12; t++) {
            for (int what = 0; what < 4; what++) {
                say(all, x.thing(t, what));
            }
        }
        for (int p = 0; p < 4; p++) {
            for (int cell = 0; cell < 16; cell++) {
                say(all, x.pattern(p, 0, cell));
            }
        }
    }

    private static void floor(BeastFloor x, StringBuilder all) {
        all.append(Due.floor(x));
        for (int c = 0; c < 6; c++) {
            say(all, x.stones(c));
        }
        for (int what = 0; what < 4; what++) {
            say(all, x.works(what));
            say(all, x.together(what));
        }
        say(all, x.seams());
        say(all, x.symmetries());
        say(all, x.count(0));
        say(all, x.undo());
        all.append(Due.floor(x));
        say(all, x.undo());
        say(all, x.fill());
        all.append(Due.floor(x));
    }

    private static void ahead(BeastFloor x, StringBuilder all) {
        for (int a = 0; a < 12; a++) {
            for (int b = 0; b < 12; b++) {
                say(all, x.ahead(a, b));
            }
            say(all, x.rank(a, 0));
            say(all, x.rank(a, 1));
            say(all, x.size(a, 0));
            say(all, x.size(a, 1));
            say(all, x.hands(10 + a));
            say(all, x.sure(0, a));
        }
        say(all, x.hands(0));
        say(all, x.count(2));
        say(all, x.count(3));
    }

    private static void orders(BeastFloor x, StringBuilder all) {
        say(all, x.orders());
        say(all, x.rings(0));
        say(all, x.rings(1));
        say(all, x.begins(0));
        say(all, x.begins(1));
        for (int a = 0; a < 12; a++) {
            say(all, x.order(0, a));
            say(all, x.order(1, a));
            for (int b = 0; b < a; b++) {
                say(all, x.likely(a, b, 0));
            }
        }
    }

    private static void border(BeastFloor x, StringBuilder all) {
        say(all, x.count(1));
        say(all, x.knots());
        for (int k = 1; k <= 99; k++) {
            say(all, x.slips(k, 0));
        }
        for (int k = 1; k <= 20; k++) {
            say(all, x.slips(k, 1));
        }
        say(all, x.slips(1, 2));
        for (int place = State.KNOTS_FROM; place <= State.KNOTS_TO; place++) {
            say(all, x.knot(place));
        }
    }

    private static void lost(BeastFloor x, StringBuilder all) {
        for (int cell = 0; cell < 64; cell++) {
            say(all, x.may(cell, 0));
            say(all, x.may(cell, 1));
        }
        for (int what = 0; what < 5; what++) {
            say(all, x.lost(what));
            say(all, x.best(what));
        }
        for (int p = 0; p < 4; p++) {
            say(all, x.copies(p, 0));
            say(all, x.copies(p, 1));
            say(all, x.copies(p, 4));
        }
    }

    /** A SHEET is seen by reading its CELLS one by one. */
    private static void sheet(BeastFloor x, int k, StringBuilder all) {
        say(all, x.torn());
        say(all, x.count(5));
        int own = 0;
        for (int lane = 0; lane < 3; lane++) {
            say(all, x.read(k, lane, 0, 0, 1));
            say(all, x.torn());
            own = x.torn() == 3 ? own : lane;
        }
        for (int i = 0; i <= 64; i++) {
            say(all, x.read(k, own, i, 0, 1));
            say(all, x.at(0));
        }
        say(all, x.torn());
    }

    /** THE TAPE is seen by what its text tells. */
    private static void tape(BeastFloor x, StringBuilder all) {
        say(all, x.fault());
        say(all, x.count(4));
        say(all, x.text());
        say(all, x.fault());
        say(all, x.count(4));
        told(x, all);
    }

    private Seen() {
    }
}
