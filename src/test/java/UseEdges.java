import java.util.Set;

/** The edges of any use: how many calls, which exceptions, and the constants. */
final class UseEdges extends Edges {
    UseEdges(Check check, Set<String> tested) {
        super(check, tested);
    }

    @Override
    void test() {
        calls();
        exceptions();
        refusedCalls();
        constants();
    }

    /** Two needed gates, one way there and one back each, so that a race can go on without a lap. */
    private static Leaguewheel twoRings() {
        Leaguewheel x = Cups.ring(5, 2);
        x.addGate(true);
        x.addWay(0, 2, 5);
        x.addWay(2, 0, 5);
        return x;
    }

    private void calls() {
        part("What it is");
        says("An object is used for at most 512 calls after it has been made;", () -> {
            Leaguewheel x = twoRings();
            x.start(9);
            for (int call = 10; call < 509; call++) {
                boolean there = (call - 10) % 4 < 2;
                due("call " + call, x.pass(call % 2, there ? 1 : 0), there ? RIGHT : MISSED);
            }
            due("the 509th call", x.rankByRecord(0), 1);
            due("the 510th", x.pass(0, 1), RIGHT);
            due("the 511th", x.pass(0, 0), MISSED);
            due("the 512th", x.rankByRecord(0), 1);
        });
        says("what later calls answer is free.", () -> {
            Leaguewheel x = twoRings();
            x.start(9);
            for (int call = 10; call < 3000; call++) {
                int to = call % 2 == 0 ? 1 : 0;
                answersOrIsRefused("call " + call, () -> x.pass(1, to));
            }
            answersOrIsRefused("the record of so many passings", () -> x.rankByRecord(1));
            for (int call = 3000; call < 4000; call++) {
                answersOrIsRefused("call " + call, () -> x.idle(100));
                answersOrIsRefused("call " + call, () -> x.draw(0));
                answersOrIsRefused("call " + call, () -> x.use(0));
            }
        });
    }

    /** The answer is free, but no exception of the machine may come. */
    private void answersOrIsRefused(String what, Check.Call call) {
        Object answer = Check.answerOf(call);
        due(what, answer instanceof Integer || answer.equals("IllegalStateException"), true);
    }

    private void exceptions() {
        part("The cup");
        says("IndexOutOfBoundsException: there is no such gate, kart, team, race or character.", () -> {
            Leaguewheel x = Cups.ring(5, 2);
            outside("gate", 2, x, (cup, gate) -> cup.rest(gate));
            outside("kart", 2, x, (cup, kart) -> cup.standing(kart));
            outside("team", 4, x, (cup, team) -> cup.teamPoints(team));
            outside("race", 0, x, (cup, race) -> cup.place(race, 0));
            outside("character", 3, x, (cup, at) -> cup.textAt(at));
        });
        says("IllegalArgumentException: another argument is out of its range.", () -> {
            Leaguewheel x = Cups.ring(5, 2);
            argument("length", () -> x.addWay(0, 1, 101));
            argument("laps", () -> x.start(10));
            argument("ticks", () -> x.idle(101));
            argument("races", () -> x.setDropped(4));
        });
        says("IllegalStateException: as the methods tell.", () -> {
            Leaguewheel x = Cups.ring(5, 2);
            state("end", () -> x.end());
            state("pass", () -> x.pass(0, 1));
            x.start(1);
            state("start", () -> x.start(1));
            state("use", () -> x.use(0));
            state("addKart", () -> x.addKart(0));
        });
        says("If several apply, the one that is named first in the throws clause is thrown.", () -> {
            Leaguewheel x = Cups.ring(5, 6);
            index("draw, no kart and no race", () -> x.draw(6));
            argument("start, laps and without a way", () -> new Leaguewheel().start(0));
            x.start(1);
            index("addWay, all three", () -> x.addWay(2, 0, 0));
            index("addWay, gate and length", () -> x.addWay(0, 2, 101));
            index("addWay, gate and moment", () -> x.addWay(0, -1, 1));
            argument("addWay, length and moment", () -> x.addWay(0, 1, 0));
            argument("addWay, to and moment", () -> x.addWay(1, 1, 1));
            index("addKart, team and moment", () -> x.addKart(4));
            argument("start, laps and a race is on", () -> x.start(0));
            Cups.lap(x, 0);
            index("pass, gate and finished", () -> x.pass(0, 2));
            index("pass, kart and no way", () -> x.pass(6, 0));
            Cups.use(x, 1, SHIELD);
            Cups.use(x, 3, SHELL);
            due("a stunned kart", x.stunned(2), 5);
            index("pass, gate and stunned", () -> x.pass(2, 2));
            index("use, kart and no item", () -> x.use(-1));
        });
    }

    private void refusedCalls() {
        says("A call that throws changes nothing.", () -> {
            Refusals refusals = new Refusals();
            due("refused calls that change something", refusals.changes(), "");
            due("there were many", refusals.count() > 10000, true);
        });
    }

    private void constants() {
        says("The constants: `NONE = -1`: There is none.", () -> {
            due("NONE", NONE, -1);
            due("no rest", new Leaguewheel().rest(0), -1);
            due("no way before", Cups.fork().addWay(0, 3, 1), -1);
            due("no item", Cups.fork(0).itemOf(0), -1);
        });
        says("`RIGHT = 0, LAP = 1, MISSED = 2, WRONG = 3, PAID = 4, FINISHED = 5`: How a kart passed.", () -> {
            Leaguewheel x = Cups.circle(true, 1, 1, 1, 1);
            x.addGate(false);
            x.addWay(0, 3, 1);
            x.addWay(3, 0, 1);
            x.start(2);
            int[][] passings = {
                {1, 0}, {2, 0}, {0, 1}, {3, 0}, {0, 2}, {2, 3}, {0, 4}, {1, 0}, {0, 3}, {1, 0}, {2, 0}, {0, 5}};
            for (int[] passing : passings) {
                due("to gate " + passing[0], x.pass(0, passing[0]), passing[1]);
            }
        });
        says("`BOOST = 0, SHELL = 1, SHIELD = 2, BOLT = 3`: Items.", () -> {
            int[][] drawn = {{2, 2, 1, 0}, {1, 2, 0, 1}, {1, 2, 0, 1}, {3, 0, 1, 3}};
            for (int kart = 0; kart < 4; kart++) {
                for (int place = 0; place < 4; place++) {
                    Leaguewheel x = Cups.ring(5, 4);
                    x.start(1);
                    x.setDraw(Cups.numberFor(place));
                    due("rank " + kart + ", place " + place, x.draw(kart), drawn[kart][place]);
                }
            }
        });
    }
}
