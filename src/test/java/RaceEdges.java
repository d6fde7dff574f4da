import java.util.Set;

/** The edges of races and of time: their terms, and the promises 8, 9 and 11. */
final class RaceEdges extends Edges {
    RaceEdges(Check check, Set<String> tested) {
        super(check, tested);
    }

    @Override
    void test() {
        termsOfKarts();
        termsOfTime();
        start();
        startRefuses();
        isOn();
        idle();
    }

    private void termsOfKarts() {
        part("Races");
        says("There are up to 6 karts, numbered from 0, each of a team, 0 to 3.", () -> {
            Leaguewheel x = Cups.ring(5, 0);
            index("none at first", () -> x.standing(0));
            for (int kart = 0; kart < 6; kart++) {
                due("all may be of one team", x.addKart(3), kart);
            }
            state("a seventh", () -> x.addKart(0));
            Cups.raceOnRing(x, 5, 4, 3, 2, 1, 0);
            due("the last one has a place", x.place(0, 5), 0);
            index("there is no kart 6", () -> x.place(0, 6));
            due("all points are of team 3", x.teamPoints(3), 36);
        });
        says("In a race each kart is at a gate, the line at first;", () -> {
            Leaguewheel x = Cups.ring(5, 6);
            for (int race = 0; race < 2; race++) {
                x.start(1);
                for (int kart = 0; kart < 6; kart++) {
                    due("kart " + kart + ", race " + race, x.gateOf(kart), 0);
                    Cups.go(x, kart, 1);
                }
                x.end();
            }
        });
        says("it has laps, debts, and needed gates that it has passed, all 0 or none at first;", () -> {
            Leaguewheel x = Cups.circle(true, 2, 1, 1, 1);
            x.start(2);
            Cups.lap(x, 0);
            Cups.go(x, 0, 1);
            Cups.go(x, 1, 2);
            x.end();
            x.start(1);
            due("laps", x.lapsOf(0), 0);
            due("debts", x.lapsOf(1), 0);
            due("passed needed gates", x.missing(0), 2 + 4);
            due("no debt: a lap is one", Cups.lap(x, 1), FINISHED);
        });
        says("it is finished when it has as many laps as the race.", () -> {
            for (int laps = 1; laps <= 9; laps += 4) {
                Leaguewheel x = Cups.ring(5, 1);
                x.start(laps);
                for (int lap = 1; lap < laps; lap++) {
                    due("lap " + lap + " of " + laps, Cups.lap(x, 0), LAP);
                }
                due("lap " + laps + " of " + laps, Cups.lap(x, 0), FINISHED);
                state("finished", () -> x.pass(0, 1));
                due("laps", x.lapsOf(0), laps);
            }
        });
        says("When a race is started, no kart has an item, is shielded or stunned.", () -> {
            Leaguewheel x = Cups.ring(5, 3);
            x.start(1);
            Cups.use(x, 1, SHIELD);
            Cups.use(x, 2, SHIELD);
            Cups.give(x, 2, SHELL);
            Cups.use(x, 1, SHELL);
            due("stunned before", x.stunned(0), 5);
            x.end();
            x.start(1);
            due("no item", x.itemOf(2), NONE);
            state("to use", () -> x.use(2));
            due("not stunned", x.stunned(0), 0);
            due("so it passes", x.pass(0, 1), RIGHT);
            due("not shielded", Cups.use(x, 2, SHELL), 1);
        });
    }

    private void termsOfTime() {
        says("Time is a number of ticks, 0 at first, and goes on from race to race.", () -> {
            Leaguewheel x = Cups.ring(5, 1);
            due("from 0", x.idle(1), 1);
            for (int race = 0; race < 8; race++) {
                x.start(1);
                Cups.lap(x, 0);
                due("in race " + race, x.idle(1), 2 + 2 * race);
                x.end();
                due("after race " + race, x.idle(1), 3 + 2 * race);
            }
        });
    }

    private void start() {
        part("Promise 8");
        says("Starts a race.", () -> {
            Leaguewheel x = Cups.ring(5, 1);
            x.start(9);
            due("one is on", x.isOn(), true);
            due("none is ended", x.races(), 0);
            due("karts can pass", x.pass(0, 1), RIGHT);
        });
        says("- `laps`: 1 to 9", () -> {
            Leaguewheel x = Cups.ring(5, 1);
            argument("0", () -> x.start(0));
            due("1", x.start(1), 0);
            due("is one lap", Cups.lap(x, 0), FINISHED);
            x.end();
            argument("10", () -> x.start(10));
            due("9", x.start(9), 1);
            for (int lap = 1; lap < 9; lap++) {
                due("lap " + lap + " of nine", Cups.lap(x, 0), LAP);
            }
            due("is nine laps", Cups.lap(x, 0), FINISHED);
        });
        says("Returns its number.", () -> {
            Leaguewheel x = Cups.ring(5, 1);
            for (int race = 0; race < 8; race++) {
                argument("a refused start has none", () -> x.start(0));
                due("race " + race, x.start(1), race);
                x.end();
            }
        });
        says("Throws `IllegalArgumentException` if laps is out of range", () -> {
            Leaguewheel x = Cups.ring(5, 1);
            lapsOutOfRange("before a race", x);
            for (int race = 0; race < 8; race++) {
                x.start(1);
                lapsOutOfRange("before a race is on", x);
                x.end();
            }
            lapsOutOfRange("before there were 8 races", x);
            lapsOutOfRange("before there are no karts", Cups.ring(5, 0));
            lapsOutOfRange("before a gate has no way", new Leaguewheel());
        });
    }

    private void lapsOutOfRange(String when, Leaguewheel x) {
        for (int laps : new int[] {0, -1, 10, 11, Integer.MIN_VALUE, Integer.MAX_VALUE}) {
            argument(when + ", " + laps, () -> x.start(laps));
        }
    }

    private void startRefuses() {
        says("Throws `IllegalStateException` if a race is on, there were 8 races, there are no karts, or some gate has"
                + " no way that leads from it", () -> {
            Leaguewheel x = Cups.ring(5, 1);
            for (int race = 0; race < 8; race++) {
                x.start(9);
                state("race " + race + " is on", () -> x.start(1));
                x.end();
            }
            state("there were 8", () -> x.start(1));
            due("still 8", x.races(), 8);
            due("none is on", x.isOn(), false);
            Leaguewheel empty = Cups.ring(5, 0);
            state("no karts", () -> empty.start(1));
            empty.addKart(0);
            due("one kart is enough", empty.start(1), 0);
            gatesWithoutWays();
        });
    }

    private void gatesWithoutWays() {
        Leaguewheel line = new Leaguewheel();
        line.addKart(0);
        state("the line alone has no way", () -> line.start(1));
        for (int lacking = 0; lacking < 12; lacking++) {
            Leaguewheel x = new Leaguewheel();
            x.addKart(0);
            for (int gate = 1; gate < 12; gate++) {
                x.addGate(false);
            }
            for (int gate = 0; gate < 12; gate++) {
                if (gate != lacking) {
                    x.addWay(gate, gate < 11 ? 11 : 0, 1);
                }
            }
            state("gate " + lacking + " has none", () -> x.start(1));
            due("none is on", x.isOn(), false);
            x.addWay(lacking, lacking < 11 ? lacking + 1 : 0, 1);
            due("gate " + lacking + " has one", x.start(1), 0);
        }
    }

    private void isOn() {
        part("Promise 9");
        says("Tells whether a race is on.", () -> {
            Leaguewheel x = Cups.ring(5, 1);
            argument("a refused start", () -> x.start(0));
            due("starts none", x.isOn(), false);
            x.start(1);
            due("on", x.isOn(), true);
            argument("a start refused while one is on", () -> x.start(0));
            state("and another", () -> x.start(1));
            due("ends none", x.isOn(), true);
            Cups.lap(x, 0);
            x.idle(100);
            due("all karts finished, time gone: on still", x.isOn(), true);
        });
        says("Returns whether one is.", () -> {
            Leaguewheel x = Cups.ring(5, 1);
            due("new", new Leaguewheel().isOn(), false);
            for (int race = 0; race < 8; race++) {
                due("before race " + race, x.isOn(), false);
                x.start(1);
                due("in race " + race, x.isOn(), true);
                x.end();
            }
            due("after the eighth", x.isOn(), false);
            state("a ninth", () -> x.start(1));
            due("is not on", x.isOn(), false);
        });
    }

    private void idle() {
        part("Promise 11");
        says("Lets ticks go by.", () -> {
            Leaguewheel x = Cups.ring(5, 2);
            x.start(1);
            Cups.use(x, 1, SHELL);
            x.idle(4);
            due("four of five", x.stunned(0), 1);
            x.idle(1);
            due("the fifth", x.stunned(0), 0);
        });
        says("- `ticks`: 1 to 100", () -> {
            Leaguewheel x = new Leaguewheel();
            argument("0", () -> x.idle(0));
            due("1", x.idle(1), 1);
            due("100", x.idle(100), 101);
            argument("101", () -> x.idle(101));
            due("refused ones do not go by", x.idle(1), 102);
        });
        says("Returns the tick then.", () -> {
            Leaguewheel x = new Leaguewheel();
            for (int call = 1; call <= 512; call++) {
                due("call " + call, x.idle(100), 100 * call);
            }
        });
        says("Throws `IllegalArgumentException` if ticks is out of range", () -> {
            Leaguewheel x = Cups.ring(5, 1);
            ticksOutOfRange("before a race", x);
            x.start(1);
            ticksOutOfRange("in a race", x);
            x.end();
            ticksOutOfRange("after a race", x);
            due("no time went by", x.idle(1), 1);
        });
    }

    private void ticksOutOfRange(String when, Leaguewheel x) {
        for (int ticks : new int[] {0, -1, 101, 102, Integer.MIN_VALUE, Integer.MAX_VALUE}) {
            argument(when + ", " + ticks, () -> x.idle(ticks));
        }
    }
}
