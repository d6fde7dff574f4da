/** Promises 8 to 17: races, passing, time and ranks. */
final class RaceTest {
    private static final Check check = new Check("RaceTest");

    public static void main(String[] args) {
        start();
        startRefuses();
        startWithTwelveGates();
        startBeginsAnew();
        isOn();
        passForwards();
        passMissed();
        passBackwards();
        passOverTheLineBackwards();
        passWithSeveralDebts();
        passBothWaysRound();
        passKeepsGatesBackOverTheLine();
        passRefuses();
        idle();
        askingRefuses();
        ranksOfBeginners();
        ranksByLapsAndRests();
        ranksByMoments();
        ranksOfFinished();
        ranksByRecordAlways();
        catchUp();
        catchUpAtOddGates();
        catchUpOfSixKarts();
        check.finish();
    }

    private static void start() {
        Leaguewheel x = Cups.ring(1, 1);
        for (int race = 0; race < 8; race++) {
            check.due("8: start", x.start(race + 2), race);
            check.diesOfState("8: while one is on", () -> x.start(1));
            check.diesOfArgument("8: laps before that", () -> x.start(0));
            x.end();
        }
        check.diesOfState("8: a ninth race", () -> x.start(1));
        check.diesOfArgument("8: laps before a ninth race", () -> x.start(10));
        check.due("8: none is on", x.isOn(), false);
        Leaguewheel y = Cups.ring(1, 1);
        y.start(1);
        Cups.go(y, 0, 1);
        check.due("8: one lap", y.pass(0, 0), Leaguewheel.FINISHED);
        y.end();
        y.start(9);
        for (int lap = 1; lap <= 8; lap++) {
            Cups.go(y, 0, 1);
            check.due("8: lap " + lap + " of nine", y.pass(0, 0), Leaguewheel.LAP);
        }
        Cups.go(y, 0, 1);
        check.due("8: the ninth lap", y.pass(0, 0), Leaguewheel.FINISHED);
    }

    private static void startRefuses() {
        Leaguewheel x = Cups.fork();
        check.diesOfState("8: without karts", () -> x.start(1));
        check.diesOfArgument("8: laps before karts", () -> x.start(0));
        x.addKart(0);
        check.diesOfArgument("8: 0 laps", () -> x.start(0));
        check.diesOfArgument("8: -1 laps", () -> x.start(-1));
        check.diesOfArgument("8: 10 laps", () -> x.start(10));
        x.addGate(false);
        check.diesOfState("8: a gate without a way", () -> x.start(1));
        check.due("8: a refused start starts none", x.isOn(), false);
        check.due("8: so the track may change", x.addWay(1, 4, 1), Leaguewheel.NONE);
        check.diesOfState("8: a way to it does not lead from it", () -> x.start(1));
        x.addWay(4, 0, 1);
        check.due("8: with a way", x.start(1), 0);
        Leaguewheel y = new Leaguewheel();
        y.addKart(0);
        check.diesOfState("8: the line alone", () -> y.start(1));
        y.addGate(true);
        y.addWay(1, 0, 1);
        check.diesOfState("8: no way from the line", () -> y.start(1));
    }

    private static void startWithTwelveGates() {
        Leaguewheel x = new Leaguewheel();
        x.addKart(0);
        for (int gate = 1; gate < 12; gate++) {
            x.addGate(true);
            x.addWay(gate - 1, gate, 100);
        }
        check.diesOfState("8: no way from gate 11", () -> x.start(1));
        x.addWay(11, 0, 100);
        check.due("8: with twelve gates", x.start(1), 0);
        check.due("14: eleven gates", x.missing(0), 4094);
        Cups.go(x, 0, 1, 2, 3, 4, 5, 6, 7, 8, 9, 10, 11);
        check.due("14: all passed", x.missing(0), 0);
        check.due("10: the lap", x.pass(0, 0), Leaguewheel.FINISHED);
    }

    private static void startBeginsAnew() {
        Leaguewheel x = Cups.fork(0, 0);
        x.idle(3);
        x.start(2);
        Cups.go(x, 1, 1, 3, 0, 1);
        Cups.go(x, 0, 3);
        x.end();
        x.start(1);
        check.due("8: gate anew", x.gateOf(1), 0);
        check.due("8: laps anew", x.lapsOf(1), 0);
        check.due("8: debts anew", x.lapsOf(0), 0);
        check.due("8: needed gates anew", x.missing(1), 10);
        check.due("8: moments anew", x.rank(0), 0);
        check.due("8: record anew", x.rankByRecord(1), 1);
        check.due("8: time goes on", x.idle(1), 4);
    }

    private static void isOn() {
        Leaguewheel x = Cups.fork(0);
        check.due("9: before", x.isOn(), false);
        x.start(1);
        check.due("9: in the race", x.isOn(), true);
        Cups.go(x, 0, 1, 3, 0);
        check.due("9: when all are finished", x.isOn(), true);
        x.end();
        check.due("9: after", x.isOn(), false);
        x.start(1);
        check.due("9: in the next", x.isOn(), true);
    }

    private static void passForwards() {
        Leaguewheel x = Cups.fork(0);
        x.start(2);
        check.due("14: at first", x.missing(0), 2 + 8);
        check.due("12: at first", x.gateOf(0), 0);
        check.due("10: to gate 1", x.pass(0, 1), Leaguewheel.RIGHT);
        check.due("12: at gate 1", x.gateOf(0), 1);
        check.due("14: without gate 1", x.missing(0), 8);
        check.due("10: to gate 2, not needed", x.pass(0, 2), Leaguewheel.RIGHT);
        check.due("14: as before", x.missing(0), 8);
        check.due("10: to gate 3", x.pass(0, 3), Leaguewheel.RIGHT);
        check.due("14: none", x.missing(0), 0);
        check.due("13: no lap yet", x.lapsOf(0), 0);
        check.due("10: over the line", x.pass(0, 0), Leaguewheel.LAP);
        check.due("13: one lap", x.lapsOf(0), 1);
        check.due("12: at the line", x.gateOf(0), 0);
        check.due("14: all again", x.missing(0), 2 + 8);
        Cups.go(x, 0, 1, 3);
        check.due("10: the last lap", x.pass(0, 0), Leaguewheel.FINISHED);
        check.due("13: two laps", x.lapsOf(0), 2);
        check.diesOfState("10: a finished kart", () -> x.pass(0, 1));
        check.diesOfState("10: a finished kart backwards", () -> x.pass(0, 3));
        check.due("12: stays at the line", x.gateOf(0), 0);
    }

    private static void passMissed() {
        Leaguewheel x = new Leaguewheel();
        for (int gate = 1; gate <= 2; gate++) {
            x.addGate(true);
            x.addWay(0, gate, 5);
            x.addWay(gate, 0, 5);
        }
        x.addKart(0);
        x.start(1);
        Cups.go(x, 0, 2);
        check.due("14: gate 1 is missing", x.missing(0), 2);
        check.due("10: not all needed gates", x.pass(0, 0), Leaguewheel.MISSED);
        check.due("13: no lap", x.lapsOf(0), 0);
        check.due("14: gate 2 is lost, too", x.missing(0), 2 + 4);
        Cups.go(x, 0, 1);
        check.due("10: missed again", x.pass(0, 0), Leaguewheel.MISSED);

        Leaguewheel y = new Leaguewheel();
        y.addGate(false);
        y.addWay(0, 1, 1);
        y.addWay(1, 0, 1);
        y.addKart(0);
        y.start(2);
        check.due("14: none are needed", y.missing(0), 0);
        Cups.go(y, 0, 1);
        check.due("10: a lap without needed gates", y.pass(0, 0), Leaguewheel.LAP);
    }

    private static void passBackwards() {
        Leaguewheel x = Cups.fork(0);
        x.start(2);
        Cups.go(x, 0, 1, 2, 3);
        check.due("10: back to gate 2", x.pass(0, 2), Leaguewheel.WRONG);
        check.due("12: at gate 2", x.gateOf(0), 2);
        check.due("14: gate 3 is not passed", x.missing(0), 8);
        check.due("10: back to gate 1", x.pass(0, 1), Leaguewheel.WRONG);
        check.due("14: gate 1 is passed still", x.missing(0), 8);
        check.due("10: back to the line", x.pass(0, 0), Leaguewheel.WRONG);
        check.due("14: gate 1 is not passed", x.missing(0), 2 + 8);
        check.due("13: no debt by that", x.lapsOf(0), 0);
        check.due("10: on again", x.pass(0, 1), Leaguewheel.RIGHT);
        check.due("14: gate 1 passed again", x.missing(0), 8);
    }

    private static void passOverTheLineBackwards() {
        Leaguewheel x = Cups.fork(0);
        x.start(2);
        Cups.go(x, 0, 1, 3, 0);
        check.due("10: back over the line", x.pass(0, 3), Leaguewheel.WRONG);
        check.due("13: the lap less a debt", x.lapsOf(0), 0);
        check.due("14: all are missing", x.missing(0), 2 + 8);
        x.pass(0, 1);
        check.due("10: forwards with a debt", x.pass(0, 3), Leaguewheel.RIGHT);
        check.due("14: with a debt nothing is passed", x.missing(0), 2 + 8);
        check.due("10: the debt is paid", x.pass(0, 0), Leaguewheel.PAID);
        check.due("13: one lap again", x.lapsOf(0), 1);
        check.due("14: all are missing still", x.missing(0), 2 + 8);
        Cups.go(x, 0, 1, 3);
        check.due("14: none is missing", x.missing(0), 0);
        check.due("10: finished after all", x.pass(0, 0), Leaguewheel.FINISHED);
    }

    private static void passWithSeveralDebts() {
        Leaguewheel x = Cups.fork(0);
        x.start(1);
        Cups.go(x, 0, 3, 1, 0, 3, 2, 1, 0, 3);
        check.due("13: three debts", x.lapsOf(0), -3);
        check.due("10: the first is paid", x.pass(0, 0), Leaguewheel.PAID);
        check.due("13: two debts", x.lapsOf(0), -2);
        Cups.go(x, 0, 1, 3);
        check.due("10: the second is paid", x.pass(0, 0), Leaguewheel.PAID);
        Cups.go(x, 0, 1, 3);
        check.due("10: the third is paid", x.pass(0, 0), Leaguewheel.PAID);
        check.due("13: none left", x.lapsOf(0), 0);
        Cups.go(x, 0, 1, 3);
        check.due("10: a lap then", x.pass(0, 0), Leaguewheel.FINISHED);
    }

    private static void passBothWaysRound() {
        Leaguewheel x = Cups.ring(5, 1);
        x.start(2);
        check.due("10: forwards goes first, from the line", x.pass(0, 1), Leaguewheel.RIGHT);
        check.due("10: and from the gate", x.pass(0, 0), Leaguewheel.LAP);
        check.due("10: and from the line again", x.pass(0, 1), Leaguewheel.RIGHT);
        check.due("13: no debt", x.lapsOf(0), 1);
    }

    /** What was passed is lost over the line forwards only; backwards just the gate left is. */
    private static void passKeepsGatesBackOverTheLine() {
        Leaguewheel x = Cups.fork();
        x.addWay(0, 2, 8);
        x.addKart(0);
        x.start(2);
        Cups.go(x, 0, 1, 2, 0);
        check.due("12: back at the line", x.gateOf(0), 0);
        check.due("14: gate 1 is passed still", x.missing(0), 8);
        Cups.go(x, 0, 3);
        check.due("14: and behind a debt", x.missing(0), 8);
        check.due("10: until it is paid", x.pass(0, 0), Leaguewheel.PAID);
        check.due("14: all are missing", x.missing(0), 2 + 8);

        Leaguewheel y = Cups.fork();
        y.addWay(0, 2, 8);
        y.addKart(0);
        y.start(1);
        Cups.go(y, 0, 1, 2, 0, 2, 3);
        check.due("10: a lap in two goes", y.pass(0, 0), Leaguewheel.FINISHED);
    }

    private static void passRefuses() {
        Leaguewheel x = Cups.fork(0, 0);
        check.diesOfState("10: no race is on", () -> x.pass(0, 1));
        check.diesOfIndex("10: kart before that", () -> x.pass(2, 1));
        check.diesOfIndex("10: gate before that", () -> x.pass(0, 4));
        x.start(1);
        check.diesOfIndex("10: kart -1", () -> x.pass(-1, 1));
        check.diesOfIndex("10: kart 2", () -> x.pass(2, 1));
        check.diesOfIndex("10: gate -1", () -> x.pass(0, -1));
        check.diesOfIndex("10: gate 4", () -> x.pass(0, 4));
        check.diesOfState("10: no way to gate 2", () -> x.pass(0, 2));
        check.diesOfState("10: to the same gate", () -> x.pass(0, 0));
        check.due("12: it stays there", x.gateOf(0), 0);
        Cups.go(x, 1, 1);
        check.diesOfState("10: to itself", () -> x.pass(1, 1));
        check.due("15: refused passings are none", x.rank(1), 0);
        check.due("16: nor in the record", x.rankByRecord(1), 0);
        Cups.go(x, 1, 3, 0);
        check.diesOfIndex("10: gate before finished", () -> x.pass(1, 4));
        x.end();
        check.diesOfState("10: after the race", () -> x.pass(0, 1));
    }

    private static void idle() {
        Leaguewheel x = Cups.fork(0);
        check.due("11: a tick", x.idle(1), 1);
        check.due("11: a hundred", x.idle(100), 101);
        check.diesOfArgument("11: 0", () -> x.idle(0));
        check.diesOfArgument("11: -1", () -> x.idle(-1));
        check.diesOfArgument("11: 101", () -> x.idle(101));
        check.diesOfArgument("11: greatest int", () -> x.idle(Integer.MAX_VALUE));
        x.start(1);
        Cups.go(x, 0, 1);
        check.due("11: no other call takes time", x.idle(9), 110);
        x.end();
        check.due("11: after the race", x.idle(1), 111);
    }

    private static void askingRefuses() {
        Leaguewheel x = Cups.fork(0, 0);
        asksInVain(x, "before");
        x.start(1);
        noSuchKart(x, "in the race");
        x.end();
        asksInVain(x, "after");
    }

    private static void asksInVain(Leaguewheel x, String when) {
        check.diesOfState("12: gateOf " + when, () -> x.gateOf(1));
        check.diesOfState("13: lapsOf " + when, () -> x.lapsOf(1));
        check.diesOfState("14: missing " + when, () -> x.missing(1));
        check.diesOfState("15: rank " + when, () -> x.rank(1));
        check.diesOfState("16: rankByRecord " + when, () -> x.rankByRecord(1));
        check.diesOfState("17: catchUp " + when, () -> x.catchUp(1));
        noSuchKart(x, when);
    }

    private static void noSuchKart(Leaguewheel x, String when) {
        for (int kart : new int[] {-1, 2, 6, Integer.MIN_VALUE, Integer.MAX_VALUE}) {
            check.diesOfIndex("12: gateOf " + when, () -> x.gateOf(kart));
            check.diesOfIndex("13: lapsOf " + when, () -> x.lapsOf(kart));
            check.diesOfIndex("14: missing " + when, () -> x.missing(kart));
            check.diesOfIndex("15: rank " + when, () -> x.rank(kart));
            check.diesOfIndex("16: rankByRecord " + when, () -> x.rankByRecord(kart));
            check.diesOfIndex("17: catchUp " + when, () -> x.catchUp(kart));
        }
    }

    /** The ranks of all karts, one digit each. */
    private static void ranks(String what, Leaguewheel x, String want) {
        check.due("15: " + what, Cups.ranks(x), want);
        check.due("16: " + what, Cups.ranksByRecord(x), want);
    }

    private static void ranksOfBeginners() {
        Leaguewheel x = Cups.fork(0, 1, 2, 3, 0, 1);
        x.start(1);
        ranks("all at the line", x, "012345");
        Cups.go(x, 2, 1, 0);
        ranks("one is back at the line", x, "015234");
        Cups.go(x, 0, 1, 0);
        ranks("two are back", x, "504123");
    }

    private static void ranksByLapsAndRests() {
        Leaguewheel x = Cups.fork(0, 1, 2, 3);
        x.start(3);
        Cups.go(x, 0, 1);
        Cups.go(x, 1, 1, 2);
        Cups.go(x, 2, 1, 3);
        ranks("by rests", x, "2103");
        Cups.go(x, 3, 1, 3, 0);
        ranks("a lap goes before a rest", x, "3210");
        Cups.go(x, 3, 3);
        ranks("a debt takes the lap back, the rest is the least", x, "3201");
        Cups.go(x, 3, 2);
        ranks("and the later one at the same gate", x, "3102");
        Cups.go(x, 3, 1, 0, 3);
        ranks("laps less debts below 0", x, "2103");
    }

    private static void ranksByMoments() {
        Leaguewheel x = Cups.fork(0, 1, 2);
        x.start(3);
        Cups.go(x, 2, 1);
        Cups.go(x, 1, 1);
        Cups.go(x, 0, 1);
        ranks("the earlier one at the same gate", x, "210");
        Cups.go(x, 2, 2, 1);
        ranks("its last passing counts", x, "102");

        Leaguewheel y = new Leaguewheel();
        y.addGate(false);
        y.addGate(false);
        y.addWay(0, 1, 1);
        y.addWay(0, 2, 2);
        y.addWay(1, 0, 7);
        y.addWay(2, 0, 7);
        y.addKart(0);
        y.addKart(0);
        y.start(1);
        Cups.go(y, 1, 2);
        Cups.go(y, 0, 1);
        ranks("two gates with the same rest", y, "10");

        Leaguewheel z = new Leaguewheel();
        z.addGate(false);
        z.addGate(false);
        z.addWay(0, 1, 5);
        z.addWay(1, 0, 5);
        z.addWay(0, 2, 1);
        z.addWay(2, 0, 10);
        z.addKart(0);
        z.addKart(0);
        z.start(1);
        Cups.go(z, 0, 2);
        ranks("who has passed is behind who has not, at the same rest", z, "10");
    }

    private static void ranksOfFinished() {
        Leaguewheel x = Cups.fork(0, 1, 2, 3);
        x.start(2);
        Cups.go(x, 3, 1, 3, 0, 1, 3);
        Cups.go(x, 1, 1, 3, 0, 1, 3, 0);
        ranks("finished before a shorter rest", x, "2031");
        Cups.go(x, 3, 0);
        ranks("the later one behind the earlier one", x, "2031");
        Cups.go(x, 0, 1, 3, 0, 1, 3, 0);
        ranks("and the third", x, "2031");
    }

    private static void ranksByRecordAlways() {
        Leaguewheel x = Cups.fork(0, 1, 2);
        x.start(9);
        int[] gates = {1, 3, 2, 3, 0, 3, 0, 1, 0, 1, 2, 1, 3, 0};
        for (int step = 0; step < gates.length; step++) {
            for (int kart = 2; kart >= 0; kart--) {
                if (step + kart < gates.length) {
                    Cups.go(x, kart, gates[step]);
                }
                int told = x.rankByRecord(kart);
                check.due("16: as rank", told, x.rank(kart));
            }
        }
        check.due("16: telling changes nothing", x.gateOf(0), 0);
        check.due("16: nor the laps", x.lapsOf(0), 2);
    }

    private static void catchUp() {
        Leaguewheel x = Cups.fork(0, 1);
        x.start(9);
        check.due("17: no lead", x.catchUp(0) + x.catchUp(1), 0);
        Cups.go(x, 0, 1);
        check.due("17: a lead of 10", x.catchUp(1), 1);
        check.due("17: over the first one", x.catchUp(0), 0);
        Cups.go(x, 0, 2);
        check.due("17: 17, rounded down", x.catchUp(1), 1);
        Cups.go(x, 0, 3);
        check.due("17: 21", x.catchUp(1), 2);
        Cups.go(x, 0, 0);
        check.due("17: a whole lap of 26", x.catchUp(1), 2);
        Cups.go(x, 0, 1, 3);
        check.due("17: 47", x.catchUp(1), 4);
        Cups.go(x, 1, 3);
        check.due("17: a debt is a lap less: 47 + 5", x.catchUp(1), 5);

        Leaguewheel y = Cups.ring(100, 2);
        y.start(9);
        Cups.go(y, 0, 1);
        check.due("17: 100", y.catchUp(1), 10);
        Cups.go(y, 0, 0);
        check.due("17: 200", y.catchUp(1), 20);
        Cups.go(y, 0, 1);
        check.due("17: 300 is too much", y.catchUp(1), 25);

        Leaguewheel z = Cups.ring(65, 2);
        z.start(1);
        Cups.go(z, 0, 1, 0);
        check.due("17: 130 of a finished one", z.catchUp(1), 13);
        Leaguewheel w = Cups.ring(64, 2);
        w.start(9);
        Cups.go(w, 0, 1, 0, 1, 0);
        check.due("17: 256", w.catchUp(1), 25);
    }

    /** At gate 2 the rest is longer than a lap, so what is done there is below 0. */
    private static void catchUpAtOddGates() {
        Leaguewheel x = new Leaguewheel();
        x.addGate(false);
        x.addGate(false);
        x.addWay(0, 1, 5);
        x.addWay(1, 0, 5);
        x.addWay(0, 2, 1);
        x.addWay(2, 0, 100);
        x.addKart(0);
        x.addKart(0);
        x.start(2);
        Cups.go(x, 0, 2);
        check.due("15: behind the line", x.rank(0), 1);
        check.due("17: 0 less -90", x.catchUp(0), 9);
        check.due("17: not below 0", x.catchUp(1), 0);

        Leaguewheel y = new Leaguewheel();
        y.addGate(false);
        y.addGate(false);
        y.addWay(0, 1, 1);
        y.addWay(1, 2, 1);
        y.addWay(2, 0, 1);
        y.addWay(0, 2, 1);
        y.addWay(1, 0, 50);
        y.addKart(0);
        y.addKart(0);
        y.start(1);
        check.due("7: the lap over gate 2", y.rest(0), 2);
        Cups.go(y, 0, 1, 2);
        check.due("17: 1 is no tenth", y.catchUp(1), 0);
        Cups.go(y, 0, 0);
        Cups.go(y, 1, 2);
        check.due("17: behind a finished one", y.catchUp(1), 0);
    }

    private static void catchUpOfSixKarts() {
        Leaguewheel x = Cups.ring(20, 6);
        x.start(2);
        Cups.go(x, 5, 1);
        for (int kart = 0; kart < 5; kart++) {
            check.due("17: behind the sixth", x.catchUp(kart), 2);
        }
        check.due("17: the sixth", x.catchUp(5), 0);
    }
}
