/** Says of each sentence of the document that names a boundary case whether it holds. */
final class Bounds {
    /** A call with one number that is tried at its bounds. */
    interface Numbered {
        long on(BeastFloor x, int n);
    }

    private final Due due = new Due();
    private final String[] unchanged = new String[State.values().length];
    private String sentence = "";
    private int sentences = 0;

    /** What follows looks at these words of the document. */
    void sentence(String words) {
        sentence = words;
        sentences++;
    }

    void is(String call, long got, long want) {
        due.is("[" + sentence + "] " + call, got, want);
    }

    void holds(String what, boolean whether) {
        is(what, whether ? 1 : 0, 1);
    }

    /** The answer of a call on an object in a state. */
    void answers(State state, String call, Seen.Call c, long want) {
        is(state + ": " + call, c.on(state.make()), want);
    }

    /** A call that is refused: its answer, and that nothing has changed. */
    void refused(State state, String call, Seen.Call c, long want) {
        answers(state, call, c, want);
        holds(state + ": " + call + " changes nothing", Seen.of(state, c).equals(seen(state)));
    }

    private String seen(State state) {
        int i = state.ordinal();
        if (unchanged[i] == null) {
            unchanged[i] = Seen.of(state, Seen.NOTHING);
        }
        return unchanged[i];
    }

    /** Some numbers with which a call is refused; # stands for the number. */
    void refusedWith(State state, String call, Numbered c, long want, int... numbers) {
        for (int n : numbers) {
            refused(state, call.replace("#", String.valueOf(n)), x -> c.on(x, n), want);
        }
    }

    /** The first numbers beyond the bounds, on either side, and the least and the greatest int. */
    void outside(State state, String call, Numbered c, long want, int least, int most) {
        refusedWith(state, call, c, want, least - 1, most + 1, Integer.MIN_VALUE, Integer.MAX_VALUE);
    }

    /** An object that has been told a text, which must be taken. */
    BeastFloor told(String text) {
        BeastFloor x = new BeastFloor();
        holds("text() of '" + text + "' is taken", Due.tell(x, text) >= 0);
        return x;
    }

    /** A text that is taken: how many lines it has. */
    BeastFloor taken(String text, int lines) {
        BeastFloor x = new BeastFloor();
        String said = text.length() > 60 ? text.substring(0, 60) + ".." : text;
        is("text() of '" + said + "'", Due.tell(x, text), lines);
        is("fault() of '" + said + "'", x.fault(), 0);
        return x;
    }

    /** A text that has a FAULT: which one, and its place. */
    void faulty(String text, int fault, int place) {
        BeastFloor x = new BeastFloor();
        String said = text.length() > 60 ? text.substring(0, 60) + ".." : text;
        is("text() of '" + said + "'", Due.tell(x, text), -10 - place);
        is("fault() of '" + said + "'", x.fault(), fault);
    }

    void end() {
        System.out.println(sentences + " sentences");
        due.end();
    }
}
