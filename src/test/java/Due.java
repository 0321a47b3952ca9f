/** Counts the answers that are not as due, and says them. */
final class Due {
    private int asked = 0;
    private int wrong = 0;

    void is(String call, long got, long want) {
        asked++;
        if (got != want) {
            wrong++;
            if (wrong <= 50) {
                System.out.println(call + " answered " + got + ", due is " + want);
            }
        }
    }

    void holds(String what, boolean whether) {
        is(what, whether ? 1 : 0, 1);
    }

    /** A new object that has been told a text, which must be taken. */
    BeastFloor told(String text) {
        BeastFloor x = new BeastFloor();
        int answer = tell(x, text);
        holds("text() of '" + text + "' is taken", answer >= 0);
        return x;
    }

    /** Feeds a text, bytes 0 to 255, and has it read: what text() answers. */
    static int tell(BeastFloor x, String text) {
        feed(x, text);
        return x.text();
    }

    static void feed(BeastFloor x, String text) {
        int before = x.count(4);
        for (int from = 0; from < text.length(); from += 8) {
            long eight = 0;
            for (int i = 0; i < 8; i++) {
                int sign = from + i < text.length() ? text.charAt(from + i) : ' ';
                eight = eight << 8 | sign;
            }
            x.feed(eight);
        }
        x.end(before + text.length());
    }

    /** Puts a floor: 64 letters a to f, or . for LOST; blanks are passed over. */
    static void lay(BeastFloor x, String floor) {
        int cell = 0;
        for (int i = 0; i < floor.length(); i++) {
            char sign = floor.charAt(i);
            if (sign != ' ') {
                x.put(cell, sign == '.' ? -1 : sign - 'a');
                cell++;
            }
        }
    }

    static String floor(BeastFloor x) {
        StringBuilder cells = new StringBuilder();
        for (int cell = 0; cell < 64; cell++) {
            int colour = x.at(cell);
            cells.append(colour < 0 ? '.' : (char) ('a' + colour));
        }
        return cells.toString();
    }

    void end() {
        System.out.println(wrong == 0 ? asked + " answers are as due" : wrong + " of " + asked + " answers are not as due");
        if (wrong != 0) {
            System.exit(1);
        }
    }
}
