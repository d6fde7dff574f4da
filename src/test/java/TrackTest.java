/** Promises 1 to 7: a new object, the track and the karts. */
final class TrackTest {
    private static final Check check = new Check("TrackTest");

    public static void main(String[] args) {
        aNewObject();
        addGate();
        addWay();
        addWayRefuses();
        addKart();
        counts();
        rest();
        restOfDeadEnds();
        nothingAfterTheFirstStart();
        check.finish();
    }

    private static void aNewObject() {
        Leaguewheel x = new Leaguewheel();
        check.due("1: gates", x.gates(), 1);
        check.due("1: karts", x.karts(), 0);
        check.due("1: rest of the line", x.rest(0), Leaguewheel.NONE);
        check.due("1: isOn", x.isOn(), false);
        check.due("1: races", x.races(), 0);
        check.due("1: textLength", x.textLength(), 0);
        check.due("1: time", x.idle(1), 1);
        check.due("1: dropped", x.setDropped(0), 0);
        check.diesOfIndex("1: points", () -> x.points(0));
        check.diesOfState("1: start", () -> x.start(1));
        check.diesOfState("1: end", () -> x.end());
    }

    private static void addGate() {
        Leaguewheel x = new Leaguewheel();
        for (int gate = 1; gate < 12; gate++) {
            check.due("2: addGate", x.addGate(gate % 2 == 0), gate);
        }
        check.diesOfState("2: a 13th gate", () -> x.addGate(true));
        check.due("2: gates after the refused one", x.gates(), 12);
        for (int gate = 0; gate < 12; gate++) {
            x.addWay(gate, (gate + 1) % 12, 1);
        }
        x.addKart(0);
        x.start(1);
        check.due("2: which are needed", x.missing(0), 4 + 16 + 64 + 256 + 1024);
    }

    private static void addWay() {
        Leaguewheel x = new Leaguewheel();
        x.addGate(false);
        x.addGate(false);
        check.due("3: a way from the line", x.addWay(0, 1, 1), Leaguewheel.NONE);
        check.due("3: a way past a gate", x.addWay(0, 2, 100), Leaguewheel.NONE);
        check.due("3: a way to the line", x.addWay(1, 0, 3), Leaguewheel.NONE);
        check.due("3: its new length", x.addWay(1, 0, 4), 3);
        check.due("3: once more", x.addWay(1, 0, 4), 4);
        check.due("3: the other way round", x.addWay(0, 1, 2), 1);
        check.due("3: the long one", x.addWay(0, 2, 99), 100);
    }

    private static void addWayRefuses() {
        Leaguewheel x = new Leaguewheel();
        x.addGate(false);
        x.addGate(false);
        x.addWay(1, 2, 9);
        check.diesOfIndex("3: from too great", () -> x.addWay(3, 0, 1));
        check.diesOfIndex("3: from below 0", () -> x.addWay(-1, 0, 1));
        check.diesOfIndex("3: to too great", () -> x.addWay(0, 3, 1));
        check.diesOfIndex("3: to below 0", () -> x.addWay(0, -1, 1));
        check.diesOfIndex("3: greatest int", () -> x.addWay(Integer.MAX_VALUE, 0, 1));
        check.diesOfIndex("3: least int", () -> x.addWay(0, Integer.MIN_VALUE, 1));
        check.diesOfIndex("3: gate before length", () -> x.addWay(0, 3, 0));
        check.diesOfArgument("3: from the line to the line", () -> x.addWay(0, 0, 1));
        check.diesOfArgument("3: to itself", () -> x.addWay(1, 1, 1));
        check.diesOfArgument("3: to a lesser gate", () -> x.addWay(2, 1, 1));
        check.diesOfArgument("3: length 0", () -> x.addWay(1, 2, 0));
        check.diesOfArgument("3: length -1", () -> x.addWay(1, 2, -1));
        check.diesOfArgument("3: length 101", () -> x.addWay(1, 2, 101));
        check.due("3: nothing was changed", x.addWay(1, 2, 8), 9);
        check.due("3: nothing was added", x.addWay(0, 1, 8), Leaguewheel.NONE);
    }

    private static void addKart() {
        Leaguewheel x = new Leaguewheel();
        check.diesOfIndex("4: team -1", () -> x.addKart(-1));
        check.diesOfIndex("4: team 4", () -> x.addKart(4));
        check.due("4: none was added", x.karts(), 0);
        int[] teams = {0, 1, 2, 3, 3, 0};
        for (int kart = 0; kart < 6; kart++) {
            check.due("4: addKart", x.addKart(teams[kart]), kart);
        }
        check.diesOfState("4: a 7th kart", () -> x.addKart(0));
        check.diesOfIndex("4: team before too many", () -> x.addKart(4));
        check.due("4: karts after the refused ones", x.karts(), 6);
    }

    private static void counts() {
        Leaguewheel x = new Leaguewheel();
        x.addGate(true);
        check.due("5: gates", x.gates(), 2);
        x.addGate(false);
        check.due("5: gates", x.gates(), 3);
        check.due("6: karts", x.karts(), 0);
        x.addKart(2);
        check.due("6: karts", x.karts(), 1);
        x.addKart(2);
        check.due("6: karts", x.karts(), 2);
        check.due("5: gates are no karts", x.gates(), 3);
    }

    private static void rest() {
        Leaguewheel x = Cups.fork();
        check.due("7: gate 3", x.rest(3), 5);
        check.due("7: gate 2", x.rest(2), 9);
        check.due("7: gate 1, over gate 2", x.rest(1), 16);
        check.due("7: the line", x.rest(0), 26);
        x.addWay(1, 2, 9);
        check.due("7: gate 1, straight on", x.rest(1), 17);
        check.due("7: the line then", x.rest(0), 27);
        x.addWay(1, 0, 2);
        check.due("7: gate 1, home at once", x.rest(1), 2);
        check.due("7: the line over gate 1", x.rest(0), 12);
        x.addWay(0, 3, 6);
        check.due("7: the line over gate 3", x.rest(0), 11);
        check.diesOfIndex("7: gate 4", () -> x.rest(4));
        check.diesOfIndex("7: gate -1", () -> x.rest(-1));
    }

    private static void restOfDeadEnds() {
        Leaguewheel x = new Leaguewheel();
        x.addGate(false);
        x.addGate(false);
        x.addWay(0, 1, 5);
        check.due("7: the line before a dead end", x.rest(0), Leaguewheel.NONE);
        check.due("7: a dead end", x.rest(1), Leaguewheel.NONE);
        x.addWay(1, 2, 5);
        check.due("7: a way into a dead end", x.rest(1), Leaguewheel.NONE);
        x.addWay(2, 0, 5);
        check.due("7: the line when the ways join", x.rest(0), 15);
        x.addGate(true);
        check.due("7: a new gate", x.rest(3), Leaguewheel.NONE);
        check.due("7: the line beside a new gate", x.rest(0), 15);
        x.addWay(1, 3, 1);
        check.due("7: a shorter way into a dead end", x.rest(1), 10);

        Leaguewheel y = new Leaguewheel();
        for (int gate = 1; gate < 12; gate++) {
            y.addGate(false);
        }
        for (int gate = 0; gate < 12; gate++) {
            y.addWay(gate, (gate + 1) % 12, 100);
        }
        check.due("7: the longest lap", y.rest(0), 1200);
        check.due("7: gate 11", y.rest(11), 100);
    }

    private static void nothingAfterTheFirstStart() {
        Leaguewheel x = Cups.fork(0);
        x.start(1);
        refusesChanges(x, "while a race is on");
        x.end();
        refusesChanges(x, "after a race");
        check.due("2: gates", x.gates(), 4);
        check.due("4: karts", x.karts(), 1);
        check.due("7: rest", x.rest(0), 26);
    }

    private static void refusesChanges(Leaguewheel x, String when) {
        check.diesOfState("2: addGate " + when, () -> x.addGate(true));
        check.diesOfState("3: addWay " + when, () -> x.addWay(0, 1, 1));
        check.diesOfIndex("3: no such gate " + when, () -> x.addWay(0, 4, 1));
        check.diesOfArgument("3: length 0 " + when, () -> x.addWay(0, 1, 0));
        check.diesOfArgument("3: line to line " + when, () -> x.addWay(0, 0, 1));
        check.diesOfState("4: addKart " + when, () -> x.addKart(0));
        check.diesOfIndex("4: no such team " + when, () -> x.addKart(4));
    }
}
