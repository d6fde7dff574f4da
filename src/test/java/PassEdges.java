import java.util.Set;

/** The edges of passing: its terms, and the promises 10 and 12 to 14. */
final class PassEdges extends Edges {
    PassEdges(Check check, Set<String> tested) {
        super(check, tested);
    }

    @Override
    void test() {
        termsOfForwards();
        termsOfTheLine();
        termsOfBackwards();
        pass();
        passRefuses();
        gateOf();
        lapsOf();
        missing();
    }

    /** Gate 1 needed, 2 and 3 not; from gate 2 a kart can back over the line without losing gate 1. */
    private static Leaguewheel withShortcut(int laps) {
        Leaguewheel x = new Leaguewheel();
        x.addGate(true);
        x.addGate(false);
        x.addGate(false);
        x.addWay(0, 1, 5);
        x.addWay(1, 2, 5);
        x.addWay(2, 3, 5);
        x.addWay(3, 0, 5);
        x.addWay(0, 2, 9);
        x.addKart(0);
        x.start(laps);
        return x;
    }

    private static Leaguewheel circle(int laps) {
        Leaguewheel x = Cups.circle(true, 2, 1, 1, 1, 1);
        x.start(laps);
        return x;
    }

    private void termsOfForwards() {
        part("Races");
        says("A kart that passes from its gate to another one is at that gate then.", () -> {
            Leaguewheel x = circle(9);
            for (int gate : new int[] {1, 2, 3, 0, 3, 2, 1, 0, 3, 0}) {
                x.pass(0, gate);
                due("passed to " + gate, x.gateOf(0), gate);
                due("the other kart stays", x.gateOf(1), 0);
            }
            state("a refused passing", () -> x.pass(0, 2));
            due("leaves it at its gate", x.gateOf(0), 0);
        });
        says("If a way leads from its gate to the other one, it passes forwards:", () -> {
            Leaguewheel x = circle(9);
            due("from the line", x.pass(0, 1), RIGHT);
            due("from gate 1", x.pass(0, 2), RIGHT);
            Leaguewheel ring = Cups.ring(5, 1);
            ring.start(9);
            due("ways both ways round, from the line", ring.pass(0, 1), RIGHT);
            due("ways both ways round, to the line", ring.pass(0, 0), LAP);
            due("no debt came", ring.lapsOf(0), 1);
        });
        says("- to another gate: if that is needed and the kart has no debt, it is passed now (RIGHT).", () -> {
            Leaguewheel x = withShortcut(9);
            due("needed, no debt", x.pass(0, 1), RIGHT);
            due("is passed", x.missing(0), 0);
            due("not needed", x.pass(0, 2), RIGHT);
            due("nothing changed", x.missing(0), 0);
            Cups.go(x, 0, 1);
            due("gate 1 is passed still", x.missing(0), 0);
            due("a gate not needed again", x.pass(0, 2), RIGHT);
            Leaguewheel debtor = circle(9);
            Cups.go(debtor, 0, 3, 2);
            due("needed, a debt", debtor.pass(0, 3), RIGHT);
            due("is not passed", debtor.missing(0), 14);
            Cups.go(debtor, 0, 0);
            due("the debt paid", debtor.pass(0, 1), RIGHT);
            due("is passed", debtor.missing(0), 12);
        });
    }

    private void termsOfTheLine() {
        says("- to the line with a debt: it has a debt less, and no needed gate is passed any more (PAID);", () -> {
            Leaguewheel x = withShortcut(1);
            Cups.go(x, 0, 1, 2, 0);
            due("gate 1 is passed, at the line", x.missing(0), 0);
            Cups.go(x, 0, 3);
            due("and with a debt", x.lapsOf(0), -1);
            due("all needed gates and a debt", x.pass(0, 0), PAID);
            due("the debt is gone", x.lapsOf(0), 0);
            due("and the gates", x.missing(0), 2);
            Leaguewheel deep = circle(1);
            Cups.go(deep, 0, 3, 2, 1, 0, 3, 2, 1, 0, 3);
            due("three debts", deep.lapsOf(0), -3);
            due("the first", deep.pass(0, 0), PAID);
            due("two are left", deep.lapsOf(0), -2);
            due("the second", Cups.lap(deep, 0), PAID);
            due("the third", Cups.lap(deep, 0), PAID);
            due("none is left", Cups.lap(deep, 0), FINISHED);
        });
        says("- to the line without a debt, with all needed gates passed: it has a lap more, and no needed gate is"
                + " passed any more (LAP, or FINISHED if it is finished by that);", () -> {
            Leaguewheel x = circle(2);
            due("one of two", Cups.lap(x, 0), LAP);
            due("a lap more", x.lapsOf(0), 1);
            due("all gates missing", x.missing(0), 14);
            due("two of two", Cups.lap(x, 0), FINISHED);
            due("all gates missing then", x.missing(0), 14);
            Leaguewheel none = Cups.circle(false, 1, 1, 1);
            none.start(2);
            due("none needed", Cups.lap(none, 0), LAP);
            due("none needed, the last", Cups.lap(none, 0), FINISHED);
            Leaguewheel all = Cups.greatCircle(1);
            all.start(1);
            due("eleven needed", Cups.lap(all, 0), FINISHED);
        });
        says("- to the line without a debt and without all needed gates: no needed gate is passed any more"
                + " (MISSED);", () -> {
            Leaguewheel x = Cups.greatCircle(1);
            x.addWay(10, 0, 1);
            x.start(1);
            Cups.go(x, 0, 1, 2, 3, 4, 5, 6, 7, 8, 9, 10, 11, 10);
            due("ten of eleven", x.missing(0), 1 << 11);
            due("are not all", x.pass(0, 0), MISSED);
            due("all are missing", x.missing(0), 4094);
            Leaguewheel missed = new Leaguewheel();
            missed.addGate(true);
            missed.addGate(true);
            missed.addWay(0, 1, 1);
            missed.addWay(0, 2, 1);
            missed.addWay(1, 2, 1);
            missed.addWay(1, 0, 1);
            missed.addWay(2, 0, 1);
            missed.addKart(0);
            missed.start(1);
            Cups.go(missed, 0, 1);
            due("the last one lacks", missed.pass(0, 0), MISSED);
            due("no lap", missed.lapsOf(0), 0);
            due("the one is passed no more", missed.missing(0), 6);
            Cups.go(missed, 0, 2);
            due("the first one lacks", missed.pass(0, 0), MISSED);
            Cups.go(missed, 0, 1, 2);
            due("both in one lap", missed.pass(0, 0), FINISHED);
        });
    }

    private void termsOfBackwards() {
        says("Otherwise, if a way leads from the other gate to its gate, it passes backwards (WRONG): if it was at the"
                + " line, it has a debt more;", () -> {
            Leaguewheel x = circle(9);
            due("from the line to the last gate", x.pass(0, 3), WRONG);
            due("a debt", x.lapsOf(0), -1);
            due("to gate 2", x.pass(0, 2), WRONG);
            due("to gate 1", x.pass(0, 1), WRONG);
            due("to the line", x.pass(0, 0), WRONG);
            due("a debt still", x.lapsOf(0), -1);
            due("from the line again", x.pass(0, 3), WRONG);
            due("two debts", x.lapsOf(0), -2);
            due("the other kart has none", x.lapsOf(1), 0);
            state("not past gates", () -> x.pass(0, 1));
            Leaguewheel passed = withShortcut(9);
            Cups.go(passed, 0, 1, 2, 0, 3);
            due("its gates stay passed", passed.missing(0), 0);
        });
        says("if not, the gate where it was is not passed any more.", () -> {
            Leaguewheel x = circle(9);
            Cups.go(x, 0, 1, 2, 3);
            due("all are passed", x.missing(0), 0);
            Cups.go(x, 0, 2);
            due("gate 3 is not", x.missing(0), 8);
            Cups.go(x, 0, 1);
            due("gate 2 is not", x.missing(0), 12);
            Cups.go(x, 0, 0);
            due("gate 1 is not", x.missing(0), 14);
            due("no debt", x.lapsOf(0), 0);
            Leaguewheel unneeded = withShortcut(9);
            Cups.go(unneeded, 0, 1, 2, 3, 2);
            due("a gate that is not needed: nothing", unneeded.missing(0), 0);
            Leaguewheel debtor = circle(9);
            Cups.go(debtor, 0, 3, 2);
            due("a gate not passed before: nothing", debtor.missing(0), 14);
        });
    }

    private void pass() {
        part("Promise 10");
        says("Lets a kart pass to a gate.", () -> {
            Leaguewheel x = circle(9);
            x.pass(1, 1);
            due("its gate", x.gateOf(1), 1);
            due("its needed gate", x.missing(1), 12);
            due("its rank", x.rank(1), 0);
            due("the other's gate", x.gateOf(0), 0);
            due("the other's needed gates", x.missing(0), 14);
            due("no time goes by", x.idle(1), 1);
        });
        says("- `kart`: a kart", () -> {
            Leaguewheel x = Cups.ring(5, 6);
            x.start(1);
            for (int kart = 5; kart >= 0; kart--) {
                due("kart " + kart, x.pass(kart, 1), RIGHT);
                due("is the next behind", x.rank(kart), 5 - kart);
            }
        });
        says("- `gate`: a gate", () -> {
            Leaguewheel x = Cups.greatCircle(1);
            x.start(9);
            due("the last gate", x.pass(0, 11), WRONG);
            due("the line", x.pass(0, 0), PAID);
            for (int gate = 1; gate < 12; gate++) {
                due("gate " + gate, x.pass(0, gate), RIGHT);
                due("at gate " + gate, x.gateOf(0), gate);
            }
        });
        says("Returns RIGHT to FINISHED.", () -> {
            Leaguewheel x = new Leaguewheel();
            x.addGate(true);
            x.addGate(false);
            x.addWay(0, 1, 1);
            x.addWay(1, 2, 1);
            x.addWay(0, 2, 1);
            x.addWay(2, 0, 1);
            x.addKart(0);
            x.start(2);
            int[][] passings = {{1, RIGHT}, {2, RIGHT}, {0, LAP}, {2, RIGHT}, {0, MISSED}, {1, RIGHT}, {0, WRONG},
                {1, RIGHT}, {2, RIGHT}, {0, FINISHED}};
            for (int[] passing : passings) {
                due("to " + passing[0], x.pass(0, passing[0]), passing[1]);
            }
            Leaguewheel debtor = circle(1);
            due("over the line", debtor.pass(0, 3), WRONG);
            due("and back", debtor.pass(0, 0), PAID);
        });
    }

    private void passRefuses() {
        says("Throws `IndexOutOfBoundsException` if there is no such kart or gate", () -> {
            noSuchKart((x, kart) -> x.pass(kart, 1));
            noSuchKart((x, kart) -> x.pass(kart, -1));
            Leaguewheel x = Cups.ring(5, 1);
            outside("gate, no race is on", 2, x, (cup, gate) -> cup.pass(0, gate));
            x.start(1);
            outside("gate", 2, x, (cup, gate) -> cup.pass(0, gate));
            Cups.lap(x, 0);
            outside("gate, finished", 2, x, (cup, gate) -> cup.pass(0, gate));
            Leaguewheel stunned = Cups.ring(5, 2);
            stunned.start(1);
            Cups.use(stunned, 1, SHELL);
            outside("gate, stunned", 2, stunned, (cup, gate) -> cup.pass(0, gate));
            Leaguewheel full = Cups.greatCircle(1);
            full.start(1);
            outside("gate, of twelve", 12, full, (cup, gate) -> cup.pass(0, gate));
        });
        says("Throws `IllegalStateException` if no race is on, the kart is finished or stunned, or no way leads from"
                + " the one gate to the other, either way round", () -> {
            onlyInARace((x, kart) -> x.pass(kart, 1));
            Leaguewheel x = Cups.circle(true, 4, 1, 1, 1, 1);
            x.start(1);
            state("the same gate, the line", () -> x.pass(0, 0));
            state("no way", () -> x.pass(0, 2));
            Cups.go(x, 0, 1);
            state("the same gate", () -> x.pass(0, 1));
            state("no way either way round", () -> x.pass(0, 3));
            Cups.use(x, 3, SHELL);
            state("stunned, forwards", () -> x.pass(2, 1));
            state("stunned, backwards", () -> x.pass(2, 3));
            x.idle(4);
            state("stunned for the last tick", () -> x.pass(2, 1));
            x.idle(1);
            due("not any more", x.pass(2, 1), RIGHT);
            Cups.go(x, 0, 2, 3);
            due("the last passing", x.pass(0, 0), FINISHED);
            state("finished, forwards", () -> x.pass(0, 1));
            state("finished, backwards", () -> x.pass(0, 3));
            due("the others go on", x.pass(1, 1), RIGHT);
        });
    }

    private void gateOf() {
        part("Promise 12");
        says("Returns the gate at which a kart is in the race that is on.", () -> {
            Leaguewheel x = circle(1);
            Cups.go(x, 0, 1, 2, 3, 0);
            due("a finished one is at the line", x.gateOf(0), 0);
            x.end();
            x.start(1);
            Cups.go(x, 1, 3);
            x.end();
            x.start(1);
            due("in the new race it is at the line", x.gateOf(1), 0);
        });
        says("- `kart`: a kart", () -> {
            Leaguewheel x = spread();
            for (int kart = 0; kart < 6; kart++) {
                due("kart " + kart, x.gateOf(kart), kart);
            }
        });
        says("Returns the gate.", () -> {
            Leaguewheel x = Cups.greatCircle(1);
            x.start(1);
            due("the least", x.gateOf(0), 0);
            Cups.go(x, 0, 11);
            due("the greatest", x.gateOf(0), 11);
        });
        says("Throws `IndexOutOfBoundsException` if there is no such kart",
                () -> noSuchKart((x, kart) -> x.gateOf(kart)));
        says("Throws `IllegalStateException` if no race is on", () -> onlyInARace((x, kart) -> x.gateOf(kart)));
    }

    /** Six karts, each at the gate of its number. */
    private static Leaguewheel spread() {
        Leaguewheel x = Cups.circle(true, 6, 1, 1, 1, 1, 1, 1);
        x.start(9);
        for (int kart = 0; kart < 6; kart++) {
            for (int gate = 1; gate <= kart; gate++) {
                x.pass(kart, gate);
            }
        }
        return x;
    }

    private void lapsOf() {
        part("Promise 13");
        says("Returns the laps of a kart less its debts, in the race that is on.", () -> {
            Leaguewheel x = circle(9);
            Cups.lap(x, 0);
            Cups.lap(x, 0);
            due("two laps", x.lapsOf(0), 2);
            Cups.go(x, 0, 3);
            due("two laps, a debt", x.lapsOf(0), 1);
            Cups.go(x, 0, 2, 1, 0, 3);
            due("two laps, two debts", x.lapsOf(0), 0);
            x.end();
            x.start(1);
            due("in the next race", x.lapsOf(0), 0);
        });
        says("- `kart`: a kart", () -> {
            Leaguewheel x = Cups.ring(5, 6);
            x.start(9);
            for (int kart = 0; kart < 6; kart++) {
                for (int lap = 0; lap < kart; lap++) {
                    Cups.lap(x, kart);
                }
            }
            for (int kart = 0; kart < 6; kart++) {
                due("kart " + kart, x.lapsOf(kart), kart);
            }
        });
        says("Returns how many;", () -> {
            Leaguewheel x = Cups.ring(5, 1);
            x.start(9);
            for (int lap = 0; lap < 9; lap++) {
                due("lap " + lap, x.lapsOf(0), lap);
                Cups.lap(x, 0);
            }
            due("all of nine", x.lapsOf(0), 9);
        });
        says("it may be below 0.", () -> {
            Leaguewheel x = Cups.circle(true, 1, 1, 1, 1);
            x.start(1);
            for (int debts = 1; debts <= 120; debts++) {
                Cups.go(x, 0, 2);
                due("debts", x.lapsOf(0), -debts);
                Cups.go(x, 0, 1, 0);
            }
        });
        says("Throws `IndexOutOfBoundsException` if there is no such kart",
                () -> noSuchKart((x, kart) -> x.lapsOf(kart)));
        says("Throws `IllegalStateException` if no race is on", () -> onlyInARace((x, kart) -> x.lapsOf(kart)));
    }

    private void missing() {
        part("Promise 14");
        says("Returns the needed gates that a kart still has to pass for the lap.", () -> {
            Leaguewheel x = Cups.fork(0);
            x.start(1);
            due("at first", x.missing(0), 2 + 8);
            Cups.go(x, 0, 1, 2);
            due("one passed, gate 2 is not needed", x.missing(0), 8);
            Cups.go(x, 0, 3);
            due("both passed", x.missing(0), 0);
            Cups.go(x, 0, 0);
            due("finished: anew", x.missing(0), 2 + 8);
        });
        says("- `kart`: a kart", () -> {
            Leaguewheel x = spread();
            int[] missing = {62, 60, 56, 48, 32, 0};
            for (int kart = 0; kart < 6; kart++) {
                due("kart " + kart, x.missing(kart), missing[kart]);
            }
        });
        says("Returns the sum of 2 to the power of the numbers of the needed gates that it has not passed.", () -> {
            Leaguewheel x = Cups.greatCircle(1);
            x.start(1);
            int missing = 4094;
            due("the greatest sum", x.missing(0), missing);
            for (int gate = 1; gate < 12; gate++) {
                Cups.go(x, 0, gate);
                missing -= 1 << gate;
                due("passed up to " + gate, x.missing(0), missing);
            }
            due("the least sum", x.missing(0), 0);
        });
        says("Throws `IndexOutOfBoundsException` if there is no such kart",
                () -> noSuchKart((x, kart) -> x.missing(kart)));
        says("Throws `IllegalStateException` if no race is on", () -> onlyInARace((x, kart) -> x.missing(kart)));
    }
}
