import java.util.Set;

/** The edges of the track: its terms, and the promises 1 to 7. */
final class TrackEdges extends Edges {
    TrackEdges(Check check, Set<String> tested) {
        super(check, tested);
    }

    @Override
    void test() {
        termsOfGates();
        termsOfWays();
        newObject();
        addGate();
        addWay();
        addWayRefuses();
        addKart();
        counts();
        rest();
    }

    /** All twelve gates and no way. */
    private static Leaguewheel twelveGates() {
        Leaguewheel x = new Leaguewheel();
        for (int gate = 1; gate < 12; gate++) {
            x.addGate(gate % 2 == 1);
        }
        return x;
    }

    private void termsOfGates() {
        part("The track");
        says("There are gates, numbered from 0;", () -> {
            Leaguewheel x = new Leaguewheel();
            due("the line", x.rest(0), NONE);
            index("gate 1 of one", () -> x.rest(1));
            index("gate -1", () -> x.rest(-1));
            due("the first one added", x.addGate(true), 1);
            due("is there", x.rest(1), NONE);
            index("gate 2 of two", () -> x.rest(2));
        });
        says("the gate 0 is the line, which is there from the beginning;", () -> {
            Leaguewheel x = new Leaguewheel();
            due("one gate", x.gates(), 1);
            x.addGate(false);
            x.addWay(1, 0, 7);
            due("a way to gate 0 is one to the line", x.rest(1), 7);
            x.addWay(0, 1, 3);
            due("and from gate 0 a lap begins", x.rest(0), 10);
        });
        says("there are at most 12.", () -> {
            Leaguewheel x = new Leaguewheel();
            for (int gate = 1; gate < 11; gate++) {
                x.addGate(true);
            }
            due("the twelfth", x.addGate(false), 11);
            state("a thirteenth, not needed", () -> x.addGate(false));
            state("a thirteenth, needed", () -> x.addGate(true));
            due("twelve stay", x.gates(), 12);
            due("gate 11 is there", x.rest(11), NONE);
            index("gate 12 is not", () -> x.rest(12));
        });
        says("A gate other than the line can be needed.", () -> {
            Leaguewheel all = Cups.greatCircle(1);
            all.start(1);
            due("all but the line", all.missing(0), 0b1111_1111_1110);
            Leaguewheel none = Cups.circle(false, 1, 1, 1, 1);
            none.start(1);
            due("none", none.missing(0), 0);
            Leaguewheel last = new Leaguewheel();
            for (int gate = 1; gate < 12; gate++) {
                last.addGate(gate == 11);
                last.addWay(gate - 1, gate, 1);
            }
            last.addWay(11, 0, 1);
            last.addKart(0);
            last.start(1);
            due("gate 11 alone", last.missing(0), 1 << 11);
        });
    }

    private void termsOfWays() {
        says("A way leads from a gate to one with a greater number, or to the line, and has a length.", () -> {
            Leaguewheel x = twelveGates();
            due("to the next gate", x.addWay(10, 11, 1), NONE);
            argument("back to it", () -> x.addWay(11, 10, 1));
            argument("from gate 11 to itself", () -> x.addWay(11, 11, 1));
            due("from gate 11 to the line", x.addWay(11, 0, 2), NONE);
            due("from the line to gate 11", x.addWay(0, 11, 3), NONE);
            argument("from the line to the line", () -> x.addWay(0, 0, 1));
            due("each has its length: 10 to 11", x.addWay(10, 11, 9), 1);
            due("11 to the line", x.addWay(11, 0, 9), 2);
            due("the line to 11", x.addWay(0, 11, 9), 3);
        });
        says("The rest of a gate is the least sum of lengths of ways that lead from it to the line, one behind the"
                + " other;", () -> {
            Leaguewheel x = twelveGates();
            for (int gate = 1; gate < 12; gate++) {
                x.addWay(gate, (gate + 1) % 12, 9);
            }
            due("eleven ways", x.rest(1), 99);
            x.addWay(1, 0, 100);
            due("one way that is longer by 1", x.rest(1), 99);
            x.addWay(1, 0, 99);
            due("one way as long", x.rest(1), 99);
            x.addWay(1, 0, 98);
            due("one way that is shorter by 1", x.rest(1), 98);
            due("the gate behind keeps its own", x.rest(2), 90);
            x.addWay(11, 0, 1);
            due("the last way shortened: eleven ways again", x.rest(1), 91);
            x.addWay(11, 0, 100);
            due("lengthened: one way again", x.rest(1), 98);
            due("and the one before the last", x.rest(10), 109);
        });
        says("the rest of the line is that of a whole lap.", () -> {
            Leaguewheel x = new Leaguewheel();
            due("no lap without ways", x.rest(0), NONE);
            x.addGate(false);
            x.addWay(1, 0, 1);
            due("nor with a way home alone", x.rest(0), NONE);
            x.addWay(0, 1, 1);
            due("the shortest lap", x.rest(0), 2);
            due("the longest lap", Cups.greatCircle(0).rest(0), 1200);
        });
    }

    private void newObject() {
        part("Promise 1");
        says("A cup without karts;", () -> {
            Leaguewheel x = new Leaguewheel();
            due("karts", x.karts(), 0);
            index("points of kart 0", () -> x.points(0));
            due("textLength", x.textLength(), 0);
            due("the first kart", x.addKart(3), 0);
        });
        says("the track is the line alone.", () -> {
            Leaguewheel x = new Leaguewheel();
            due("gates", x.gates(), 1);
            index("no gate 1", () -> x.addWay(0, 1, 1));
            due("no ways", x.rest(0), NONE);
            due("the first gate", x.addGate(false), 1);
        });
    }

    private void addGate() {
        part("Promise 2");
        says("Adds a gate.", () -> {
            Leaguewheel x = new Leaguewheel();
            x.addGate(false);
            due("one more", x.gates(), 2);
            due("ways can lead to it", x.addWay(0, 1, 1), NONE);
            x.addGate(true);
            due("a new gate has no ways", x.rest(2), NONE);
            due("the ways stay", x.addWay(0, 1, 2), 1);
        });
        says("- `needed`: whether it is needed", () -> {
            Leaguewheel x = new Leaguewheel();
            for (boolean needed : new boolean[] {false, true, false, true}) {
                int gate = x.addGate(needed);
                x.addWay(gate - 1, gate, 1);
            }
            x.addWay(4, 0, 1);
            x.addKart(0);
            x.start(1);
            due("gates 2 and 4", x.missing(0), 4 + 16);
        });
        says("Returns its number.", () -> {
            Leaguewheel x = new Leaguewheel();
            for (int gate = 1; gate < 12; gate++) {
                due("gate " + gate, x.addGate(true), gate);
            }
        });
        says("Throws `IllegalStateException` if a race was started, or there are 12 gates", () -> {
            Leaguewheel x = Cups.ring(1, 1);
            x.start(1);
            state("a race is on", () -> x.addGate(true));
            x.end();
            state("a race was ended", () -> x.addGate(true));
            due("none was added", x.gates(), 2);
            Leaguewheel full = twelveGates();
            state("twelve gates", () -> full.addGate(true));
            Leaguewheel both = Cups.greatCircle(1);
            both.start(1);
            state("both", () -> both.addGate(true));
            Leaguewheel refused = new Leaguewheel();
            refused.addKart(0);
            state("a start that is refused", () -> refused.start(1));
            due("is none", refused.addGate(true), 1);
        });
    }

    private void addWay() {
        part("Promise 3");
        says("Adds a way, or changes the length of the one that leads from the one gate to the other already.", () -> {
            Leaguewheel x = Cups.ring(4, 0);
            due("two ways", x.rest(0), 8);
            x.addWay(0, 1, 100);
            due("longer", x.rest(0), 104);
            x.addWay(0, 1, 1);
            due("shorter", x.rest(0), 5);
            due("the way back has its own length", x.rest(1), 4);
        });
        says("- `from`: a gate", () -> {
            Leaguewheel x = twelveGates();
            for (int from = 0; from < 11; from++) {
                due("from " + from, x.addWay(from, 11, 1), NONE);
            }
            due("from 11", x.addWay(11, 0, 1), NONE);
        });
        says("- `to`: a gate with a greater number, or the line", () -> {
            Leaguewheel x = twelveGates();
            for (int to = 1; to < 12; to++) {
                due("from the line to " + to, x.addWay(0, to, 1), NONE);
                due("and back to the line", x.addWay(to, 0, 1), NONE);
            }
            argument("from 6 to 6", () -> x.addWay(6, 6, 1));
            argument("from 6 to 5", () -> x.addWay(6, 5, 1));
            due("from 6 to 7", x.addWay(6, 7, 1), NONE);
        });
        says("- `length`: 1 to 100", () -> {
            Leaguewheel x = Cups.ring(7, 0);
            argument("0", () -> x.addWay(0, 1, 0));
            due("1", x.addWay(0, 1, 1), 7);
            due("100", x.addWay(0, 1, 100), 1);
            argument("101", () -> x.addWay(0, 1, 101));
            due("100 stays", x.addWay(0, 1, 2), 100);
        });
        says("Returns the length before;", () -> {
            Leaguewheel x = Cups.ring(1, 0);
            due("the least", x.addWay(1, 0, 100), 1);
            due("the greatest", x.addWay(1, 0, 100), 100);
            due("the same once more", x.addWay(1, 0, 1), 100);
        });
        says("NONE if there was no such way.", () -> {
            Leaguewheel x = twelveGates();
            due("the first way", x.addWay(0, 1, 1), NONE);
            due("the other way round", x.addWay(1, 0, 1), NONE);
            argument("a refused way", () -> x.addWay(0, 2, 101));
            due("is none", x.addWay(0, 2, 1), NONE);
            due("no way past a gate", x.addWay(1, 3, 1), NONE);
        });
    }

    private void addWayRefuses() {
        says("Throws `IndexOutOfBoundsException` if there is no such gate", () -> {
            Leaguewheel line = new Leaguewheel();
            outside("from, the line alone", 1, line, (x, from) -> x.addWay(from, 0, 1));
            outside("to, the line alone", 1, line, (x, to) -> x.addWay(0, to, 1));
            Leaguewheel full = twelveGates();
            outside("from, twelve gates", 12, full, (x, from) -> x.addWay(from, 0, 1));
            outside("to, twelve gates", 12, full, (x, to) -> x.addWay(0, to, 1));
            outside("both", 12, full, (x, gate) -> x.addWay(gate, gate, 1));
            outside("before the length", 12, full, (x, to) -> x.addWay(0, to, 0));
            outside("before to is not greater", 12, full, (x, from) -> x.addWay(from, 1, 1));
            Leaguewheel started = Cups.ring(1, 1);
            started.start(1);
            outside("before a race was started", 2, started, (x, to) -> x.addWay(0, to, 101));
        });
        says("Throws `IllegalArgumentException` if to is neither greater than from nor the line, from and to are both"
                + " the line, or length is out of range", () -> {
            Leaguewheel x = Cups.fork(0);
            argument("to is from", () -> x.addWay(3, 3, 1));
            argument("to is less by 1", () -> x.addWay(3, 2, 1));
            argument("to is gate 1", () -> x.addWay(3, 1, 1));
            argument("both are the line", () -> x.addWay(0, 0, 1));
            for (int length : new int[] {0, -1, 101, Integer.MIN_VALUE, Integer.MAX_VALUE}) {
                argument("length " + length, () -> x.addWay(0, 1, length));
            }
            x.start(1);
            argument("length before a race was started", () -> x.addWay(0, 1, 0));
            argument("to before a race was started", () -> x.addWay(2, 1, 1));
            argument("the line before a race was started", () -> x.addWay(0, 0, 1));
        });
        says("Throws `IllegalStateException` if a race was started", () -> {
            Leaguewheel x = Cups.fork(0);
            due("before", x.addWay(0, 1, 11), 10);
            x.start(1);
            state("a way that is there", () -> x.addWay(0, 1, 10));
            state("a new way", () -> x.addWay(2, 0, 1));
            x.end();
            state("after the race", () -> x.addWay(0, 1, 10));
            due("no length was changed", x.rest(0), 27);
            due("no way was added", x.rest(2), 9);
        });
    }

    private void addKart() {
        part("Promise 4");
        says("Adds a kart.", () -> {
            Leaguewheel x = new Leaguewheel();
            x.addKart(0);
            due("one more", x.karts(), 1);
            due("it has no points", x.points(0), 0);
            due("it stands last", x.standing(0), 0);
        });
        says("- `team`: 0 to 3", () -> {
            Leaguewheel x = Cups.ring(5, 0);
            index("-1", () -> x.addKart(-1));
            for (int team = 0; team < 4; team++) {
                due("team " + team, x.addKart(team), team);
            }
            index("4", () -> x.addKart(4));
            Cups.raceOnRing(x, 0, 1, 2, 3);
            due("team 0 has kart 0", x.teamPoints(0), 10);
            due("team 3 has kart 3", x.teamPoints(3), 5);
        });
        says("Returns its number.", () -> {
            Leaguewheel x = new Leaguewheel();
            for (int kart = 0; kart < 6; kart++) {
                due("kart " + kart, x.addKart(3), kart);
            }
        });
        says("Throws `IndexOutOfBoundsException` if there is no such team", () -> {
            Leaguewheel x = Cups.ring(5, 5);
            outside("with room", 4, x, (cup, team) -> cup.addKart(team));
            due("none was added", x.karts(), 5);
            x.addKart(0);
            outside("before the karts are too many", 4, x, (cup, team) -> cup.addKart(team));
            x.start(1);
            outside("before a race was started", 4, x, (cup, team) -> cup.addKart(team));
        });
        says("Throws `IllegalStateException` if a race was started, or there are 6 karts", () -> {
            Leaguewheel x = Cups.ring(5, 1);
            x.start(1);
            state("a race is on", () -> x.addKart(0));
            x.end();
            state("a race was ended", () -> x.addKart(3));
            due("none was added", x.karts(), 1);
            Leaguewheel full = Cups.ring(5, 5);
            due("the sixth", full.addKart(0), 5);
            state("a seventh", () -> full.addKart(0));
            due("six stay", full.karts(), 6);
        });
    }

    private void counts() {
        part("Promise 5");
        says("Returns how many gates there are, the line included.", () -> {
            Leaguewheel x = new Leaguewheel();
            for (int gates = 1; gates < 12; gates++) {
                due("gates", x.gates(), gates);
                x.addGate(gates % 2 == 0);
            }
            due("all", x.gates(), 12);
            state("one too many", () -> x.addGate(true));
            due("is not counted", x.gates(), 12);
        });
        part("Promise 6");
        says("Returns how many karts there are.", () -> {
            Leaguewheel x = new Leaguewheel();
            for (int karts = 0; karts < 6; karts++) {
                due("karts", x.karts(), karts);
                x.addKart(1);
            }
            due("all", x.karts(), 6);
            state("one too many", () -> x.addKart(1));
            index("one without a team", () -> x.addKart(4));
            due("is not counted", x.karts(), 6);
        });
    }

    private void rest() {
        part("Promise 7");
        says("Returns the rest of a gate.", () -> {
            Leaguewheel x = Cups.fork(0);
            due("before a race", x.rest(1), 16);
            x.start(1);
            due("in a race", x.rest(1), 16);
            x.end();
            due("after a race", x.rest(1), 16);
        });
        says("- `gate`: a gate", () -> {
            Leaguewheel x = Cups.greatCircle(0);
            due("the line", x.rest(0), 1200);
            for (int gate = 1; gate < 12; gate++) {
                due("gate " + gate, x.rest(gate), 1200 - 100 * gate);
            }
        });
        says("Returns the rest;", () -> {
            Leaguewheel x = Cups.ring(1, 0);
            due("the least there is", x.rest(1), 1);
            x.addWay(1, 0, 100);
            due("one long way", x.rest(1), 100);
        });
        says("NONE if no ways lead from it to the line.", () -> {
            Leaguewheel x = twelveGates();
            for (int gate = 0; gate < 11; gate++) {
                x.addWay(gate, gate + 1, 1);
            }
            for (int gate = 0; gate < 12; gate++) {
                due("the last way lacks, gate " + gate, x.rest(gate), NONE);
            }
            x.addWay(5, 0, 1);
            due("gate 5 has one", x.rest(5), 1);
            due("so the line has, too", x.rest(0), 6);
            due("gate 6 still has none", x.rest(6), NONE);
        });
        says("Throws `IndexOutOfBoundsException` if there is no such gate", () -> {
            outside("the line alone", 1, new Leaguewheel(), (x, gate) -> x.rest(gate));
            outside("four gates", 4, Cups.fork(), (x, gate) -> x.rest(gate));
            outside("twelve gates", 12, Cups.greatCircle(0), (x, gate) -> x.rest(gate));
            Leaguewheel started = Cups.fork(0);
            started.start(1);
            outside("in a race", 4, started, (x, gate) -> x.rest(gate));
        });
    }
}
