/** Objects in which much is told, put and written, made anew each time they are asked for. */
enum State {
    /** As the constructor leaves it. */
    NEW,
    /** Some of everything: also what fill() FILLED, a torn read(), a text with a FAULT, bytes on THE TAPE. */
    RICH,
    /** THINGS 0, 1, 2 in a RING, 3 behind it, 4 free. */
    RING,
    /** No more THINGS, PATTERNS, bytes, knots; no LOST CELL; SHEETS of 64 CELLS. */
    FULL;

    static final int RICH_TAPE = 17;
    /** Between these is the place of the latest knot of RICH and FULL. */
    static final int KNOTS_FROM = 200;
    static final int KNOTS_TO = 250;

    BeastFloor make() {
        BeastFloor x = new BeastFloor();
        switch (this) {
            case RICH: rich(x); break;
            case RING: ring(x); break;
            case FULL: full(x); break;
            default: break;
        }
        return x;
    }

    private static void rich(BeastFloor x) {
        Due.tell(x, "row 12 18;row 10 25;patch 0;gives 1 0;row 2 3;patch 1 3;apart 5;quarry b 3 4;quarry f 99 7;"
            + "book abcd efxx aaaa bbbb;book aaaa bxxx xxxx xxxx;");
        for (int cell = 16; cell < 20; cell++) {
            x.put(cell, 0);
        }
        x.put(1, 4);
        x.fill();
        x.put(62, -1);
        x.put(6, 4);
        x.knot(7);
        x.knot(14);
        x.knot(205);
        x.sheet(0, 0, 64);
        x.sheet(1, 1, 0);
        x.sheet(2, 2, 5);
        for (int i = 0; i < 4; i++) {
            x.write(2, i, i - 1);
            x.write(0, 9 * i, i + 2);
        }
        x.write(2, 4, 1000);
        x.write(0, 63, -1);
        x.read(0, 0, 62, 34, 4);
        Due.tell(x, "row 0 1;");
        Due.feed(x, "row 7 70;patch 0;");
    }

    private static void ring(BeastFloor x) {
        Due.tell(x, "row 1 1;row 1 1;row 1 1;patch 0;row 1 5;gives 0 1;gives 1 2;gives 2 0;");
        x.knot(230);
        x.put(9, 2);
    }

    private static void full(BeastFloor x) {
        String text = "row 99 999;row 1 1;row 98 1;patch;patch 0;patch;patch;patch 2;row 1 999;patch;patch;patch 0 1 2;"
            + "book abcd abcd abcd abcd;book aaaa aaaa aaaa aaaa;book xxxx xxxx xxxx xxxx;book abcd efab cdef abcd;";
        Due.tell(x, text);
        Due.feed(x, "apart 3;" + " ".repeat(384) + "row 7 7;");
        for (int cell = 0; cell < 64; cell++) {
            x.put(cell, cell * 5 % 6);
        }
        for (int i = 0; i < 24; i++) {
            x.knot(10 * i);
        }
        for (int k = 0; k < 4; k++) {
            x.sheet(k, k % 3, 64);
            x.write(k, 63, k);
        }
        x.fill();
    }
}
