import java.util.Set;

/** Tests of the edges, each behind the sentence of the document that it tests. */
abstract class Edges {
    static final int NONE = Leaguewheel.NONE;
    static final int RIGHT = Leaguewheel.RIGHT;
    static final int LAP = Leaguewheel.LAP;
    static final int MISSED = Leaguewheel.MISSED;
    static final int WRONG = Leaguewheel.WRONG;
    static final int PAID = Leaguewheel.PAID;
    static final int FINISHED = Leaguewheel.FINISHED;
    static final int BOOST = Leaguewheel.BOOST;
    static final int SHELL = Leaguewheel.SHELL;
    static final int SHIELD = Leaguewheel.SHIELD;
    static final int BOLT = Leaguewheel.BOLT;

    /** A call that asks for a kart, a team or another thing with a number. */
    interface NumberCall {
        Object answer(Leaguewheel x, int number);
    }

    private final Check check;
    private final Set<String> tested;
    private String part = "";
    private String sentence = "";

    Edges(Check check, Set<String> tested) {
        this.check = check;
        this.tested = tested;
    }

    abstract void test();

    final void part(String name) {
        part = name;
    }

    /** A sentence of the part, and the test that fails where it does not hold. */
    final void says(String text, Runnable test) {
        sentence = part + ": " + text;
        due("is tested once", tested.add(sentence), true);
        int before = check.answers();
        try {
            test.run();
        } catch (RuntimeException e) {
            due("throws", e, "nothing");
        }
        due("asks for something", check.answers() > before, true);
    }

    final void due(String what, Object got, Object want) {
        check.due(sentence + " [" + what + "]", got, want);
    }

    final void index(String what, Check.Call call) {
        check.diesOfIndex(sentence + " [" + what + "]", call);
    }

    final void argument(String what, Check.Call call) {
        check.diesOfArgument(sentence + " [" + what + "]", call);
    }

    final void state(String what, Check.Call call) {
        check.diesOfState(sentence + " [" + what + "]", call);
    }

    /** Asks for numbers below 0, for the first one behind the last, and for far ones. */
    final void outside(String what, int count, Leaguewheel x, NumberCall call) {
        for (int number : new int[] {-1, count, count + 1, Integer.MIN_VALUE, Integer.MAX_VALUE}) {
            index(what + ", " + number, () -> call.answer(x, number));
        }
    }

    /** With no kart up to six: before, in, between and after all races. */
    final void noSuchKart(NumberCall call) {
        outside("no karts", 0, Cups.fork(), call);
        for (int karts = 1; karts <= 6; karts++) {
            Leaguewheel x = Cups.ring(5, karts);
            outside("before the races", karts, x, call);
            for (int race = 0; race < 8; race++) {
                x.start(1);
                outside("in race " + race, karts, x, call);
                x.end();
            }
            outside("after eight races", karts, x, call);
        }
    }

    /** Before the first race, between two of them, and after the eighth. */
    final void onlyInARace(NumberCall call) {
        Leaguewheel x = Cups.ring(5, 2);
        for (int race = 0; race < 8; race++) {
            state("before race " + race, () -> call.answer(x, 1));
            x.start(1);
            x.end();
        }
        state("after eight races", () -> call.answer(x, 1));
    }
}
