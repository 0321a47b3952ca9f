/** Promises 9 to 11: put, at, lay. */
public final class FloorTest {
    private static final Due due = new Due();

    public static void main(String[] args) {
        putting();
        laying();
        layingOne();
        layingLarge();
        due.end();
    }

    private static void putting() {
        BeastFloor x = new BeastFloor();
        due.is("put(0, 5)", x.put(0, 5), -1);
        due.is("at(0)", x.at(0), 5);
        due.is("put(0, 0)", x.put(0, 0), 5);
        due.is("put(0, -1)", x.put(0, -1), 0);
        due.is("at(0)", x.at(0), -1);
        due.is("put(63, 1)", x.put(63, 1), -1);
        due.is("at(63)", x.at(63), 1);
        int[][] bad = {{-1, 0}, {64, 0}, {0, -2}, {0, 6}, {Integer.MIN_VALUE, 0}, {0, Integer.MAX_VALUE}};
        for (int[] b : bad) {
            due.is("put(" + b[0] + ", " + b[1] + ")", x.put(b[0], b[1]), -9);
        }
        due.is("at(64)", x.at(64), -9);
        due.is("at(-1)", x.at(-1), -9);
        due.is("at(0) unchanged", x.at(0), -1);
        due.is("count(0)", x.count(0), 63);
    }

    private static void laying() {
        BeastFloor x = due.told("book abcd xxxx aaaa bbbb;");
        x.put(36, 0);
        x.put(44, 3);
        due.is("lay", x.lay(0, 0, 1, 36), 11);
        due.is("at(37)", x.at(37), 1);
        due.is("at(44): nothing is told of it", x.at(44), 3);
        due.is("at(45)", x.at(45), -1);
        due.is("at(63)", x.at(63), 1);
        due.is("count(0)", x.count(0), 51);
        due.is("lay again", x.lay(0, 0, 1, 36), 0);
        due.is("lay with a CLASH", x.lay(0, 2, 1, 36), -2);
        due.is("count(0) unchanged", x.count(0), 51);
        int[][] bad = {{1, 0, 1, 0}, {-1, 0, 1, 0}, {0, 8, 1, 0}, {0, -1, 1, 0}, {0, 0, 0, 0}, {0, 0, 3, 0},
            {0, 0, 1, -1}, {0, 0, 1, 64}, {0, 0, 1, 5}, {0, 0, 1, 40}, {0, 0, 1, 37}, {0, 0, 2, 1}, {0, 0, 2, 8}};
        for (int[] b : bad) {
            due.is("lay of what can not be there", x.lay(b[0], b[1], b[2], b[3]), -1);
        }
        due.is("lay at the right edge", x.lay(0, 1, 1, 4), 12);
        due.is("at(4)", x.at(4), 1);
    }

    private static void layingOne() {
        BeastFloor x = due.told("book axxx xxxx xxxx xxxx;book xxxx xxxx xxxx xxxf;book xxxx xxxx xxxx xxxx;");
        due.is("lay of nothing", x.lay(2, 0, 1, 0), 0);
        due.is("lay of one CELL", x.lay(0, 0, 1, 0), 1);
        due.is("at(0)", x.at(0), 0);
        due.is("lay of the last CELL", x.lay(1, 0, 1, 36), 1);
        due.is("at(63)", x.at(63), 5);
        due.is("count(0)", x.count(0), 62);
    }

    private static void layingLarge() {
        BeastFloor x = due.told("book abcd xefa bcde fabx;");
        due.is("lay, twice as large, turned", x.lay(0, 1, 2, 0), 56);
        // Turned to the right: its first column from below comes first.
        String want = "ffbb..aa ffbb..aa aacceebb aacceebb bbddffcc bbddffcc ..eeaadd ..eeaadd".replace(" ", "");
        due.holds("the floor: " + Due.floor(x), Due.floor(x).equals(want));
    }
}
