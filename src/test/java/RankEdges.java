import java.util.Arrays;
import java.util.Set;

/** The edges of ranks and leads: their terms, and the promises 15 to 17. */
final class RankEdges extends Edges {
    RankEdges(Check check, Set<String> tested) {
        super(check, tested);
    }

    @Override
    void test() {
        part("Races");
        termsOfFinished();
        termsOfLapsAndRests();
        termsOfMoments();
        termsOfLeads();
        rank();
        rankByRecord();
        catchUp();
    }

    private void ranks(String what, Leaguewheel x, String want) {
        due(what, Cups.ranks(x), want);
        due(what + ", by record", Cups.ranksByRecord(x), want);
    }

    private static Leaguewheel circle(int karts, int laps) {
        Leaguewheel x = Cups.circle(true, karts, 1, 1, 1, 1);
        x.start(laps);
        return x;
    }

    /** Two gates besides the line, with a way there and one home each; none is needed. */
    private static Leaguewheel branches(int home1, int home2, int karts) {
        Leaguewheel x = new Leaguewheel();
        for (int gate = 1; gate <= 2; gate++) {
            x.addGate(false);
            x.addWay(0, gate, 5);
        }
        x.addWay(1, 0, home1);
        x.addWay(2, 0, home2);
        for (int kart = 0; kart < karts; kart++) {
            x.addKart(0);
        }
        return x;
    }

    private void termsOfFinished() {
        says("Of two karts the one that is finished is ahead of one that is not;", () -> {
            Leaguewheel x = circle(2, 2);
            Cups.lap(x, 0);
            Cups.go(x, 0, 1, 2, 3);
            Cups.lap(x, 1);
            ranks("a way before the finish, ahead still", x, "01");
            Cups.lap(x, 1);
            ranks("finished, the other has the least rest", x, "10");
        });
        says("of two that are finished the one that finished earlier;", () -> {
            Leaguewheel x = circle(6, 1);
            for (int kart : new int[] {4, 2, 5, 0, 3, 1}) {
                Cups.lap(x, kart);
            }
            ranks("all finished", x, "351402");
            Leaguewheel y = circle(3, 1);
            Cups.go(y, 2, 1, 2, 3);
            Cups.lap(y, 1);
            Cups.go(y, 2, 0);
            ranks("the later one had a lead before", y, "201");
        });
    }

    private void termsOfLapsAndRests() {
        says("otherwise the one whose laps less its debts are more;", () -> {
            Leaguewheel x = circle(3, 9);
            Cups.lap(x, 2);
            ranks("1 goes before 0", x, "120");
            Cups.go(x, 2, 3);
            ranks("a lap and a debt are 0, but the rest is less", x, "120");
            Cups.go(x, 2, 2, 1, 0);
            ranks("0 as the others, at the line, but it has passed", x, "012");
            Cups.go(x, 0, 3);
            ranks("-1 goes behind 0", x, "201");
            Cups.go(x, 1, 3, 2, 1, 0, 3);
            ranks("-2 goes behind -1", x, "120");
        });
        says("of those with as many the one at the gate with the lesser rest;", () -> {
            Leaguewheel x = branches(7, 8, 2);
            x.start(1);
            Cups.go(x, 1, 1);
            Cups.go(x, 0, 2);
            ranks("less by 1, the lower gate", x, "10");
            Leaguewheel y = branches(8, 7, 2);
            y.start(1);
            Cups.go(y, 0, 1);
            Cups.go(y, 1, 2);
            ranks("less by 1, the greater gate, later", y, "10");
            Leaguewheel z = branches(1, 100, 2);
            z.start(1);
            Cups.go(z, 0, 2);
            ranks("a rest that is more than the line's", z, "10");
        });
    }

    private void termsOfMoments() {
        says("of those with the same rest the one that passed last at an earlier moment (passings come one after the"
                + " other;", () -> {
            Leaguewheel x = branches(7, 7, 3);
            x.start(1);
            Cups.go(x, 2, 1);
            Cups.go(x, 1, 2);
            Cups.go(x, 0, 1);
            ranks("two gates with the same rest", x, "210");
            Leaguewheel y = circle(2, 9);
            Cups.go(y, 1, 1);
            Cups.go(y, 0, 1);
            ranks("in the same tick one after the other", y, "10");
            Cups.go(y, 1, 2, 1);
            ranks("the last passing counts, not the first", y, "01");
            state("a refused passing", () -> y.pass(0, 3));
            ranks("does not count", y, "01");
        });
        says("a kart that has not passed in the race is ahead of those that have, and of several such ones the one"
                + " with the lower number).", () -> {
            Leaguewheel x = circle(6, 1);
            ranks("none has passed", x, "012345");
            Cups.go(x, 0, 1, 0);
            ranks("one has, and is at the line", x, "501234");
            Cups.go(x, 3, 1, 0);
            ranks("two have", x, "401523");
            for (int kart : new int[] {1, 2, 4, 5}) {
                Cups.go(x, kart, 1, 0);
            }
            ranks("all have", x, "023145");
            x.end();
            x.start(1);
            ranks("in the next race none has", x, "012345");
            Leaguewheel far = branches(5, 10, 3);
            far.start(1);
            Cups.go(far, 1, 2);
            ranks("the first passing of all, to a gate with the rest of the line", far, "021");
        });
        says("The rank of a kart is how many are ahead of it.", () -> {
            Leaguewheel one = circle(1, 1);
            ranks("alone", one, "0");
            Cups.lap(one, 0);
            ranks("alone and finished", one, "0");
            Leaguewheel six = circle(6, 9);
            for (int kart = 5; kart >= 0; kart--) {
                Cups.go(six, kart, 1);
            }
            ranks("six", six, "543210");
        });
    }

    private void termsOfLeads() {
        says("What a kart has done is its laps less its debts, times the rest of the line, and, if it is not at the"
                + " line, the rest of the line less the rest of its gate besides.", () -> {
            Leaguewheel x = Cups.circle(true, 3, 30, 20, 10);
            x.start(9);
            Cups.go(x, 0, 1);
            due("a way of 30 before one at the line", x.catchUp(1), 3);
            Cups.go(x, 0, 2);
            due("50", x.catchUp(1), 5);
            Cups.go(x, 1, 1);
            due("50 less 30", x.catchUp(1), 2);
            Cups.go(x, 0, 0);
            due("a lap of 60 and no part of one, less 30", x.catchUp(1), 3);
            Cups.go(x, 2, 2);
            due("60 less 50, and a debt of 60", x.catchUp(2), 7);
            Cups.go(x, 2, 1);
            due("60 less 30, and a debt", x.catchUp(2), 9);
            Cups.go(x, 2, 0);
            due("60 less 0, and a debt", x.catchUp(2), 12);
            Cups.go(x, 2, 2);
            due("60 less 50, and two debts", x.catchUp(2), 13);
        });
        says("The lead over a kart is what the kart with the rank 0 has done, less what it has done itself, but at"
                + " least 0.", () -> {
            Leaguewheel x = Cups.ring(50, 6);
            x.start(9);
            due("all are at the line", x.catchUp(5), 0);
            Cups.go(x, 5, 1);
            due("the first one over itself", x.catchUp(5), 0);
            due("over another one", x.catchUp(0), 5);
            Cups.go(x, 0, 1);
            due("the second one has done as much", x.catchUp(0), 0);
            Leaguewheel odd = branches(5, 100, 2);
            odd.start(9);
            Cups.go(odd, 0, 1, 0, 2);
            due("rank 0 by a lap", odd.rank(0), 0);
            due("10 - 90 less 0 is below 0", odd.catchUp(1), 0);
            due("over itself", odd.catchUp(0), 0);
            Leaguewheel below = branches(5, 100, 2);
            below.start(9);
            Cups.go(below, 0, 2);
            due("0 less -90", below.catchUp(0), 9);
        });
    }

    private void rank() {
        part("Promise 15");
        says("Returns the rank of a kart.", () -> {
            Leaguewheel x = circle(3, 1);
            Cups.go(x, 1, 1);
            due("at once after a passing", Cups.ranks(x), "102");
            x.idle(100);
            due("time changes nothing", Cups.ranks(x), "102");
            Cups.use(x, 2, SHELL);
            due("nor a stun", Cups.ranks(x), "102");
        });
        says("- `kart`: a kart", () -> {
            Leaguewheel x = circle(6, 1);
            for (int kart = 0; kart < 6; kart++) {
                due("kart " + kart, x.rank(kart), kart);
            }
        });
        says("Returns 0 for the first one.", () -> {
            Leaguewheel x = circle(6, 1);
            for (int kart = 5; kart > 0; kart--) {
                Cups.lap(x, kart);
                due("the first, until the race is over", x.rank(5), 0);
            }
        });
        says("Throws `IndexOutOfBoundsException` if there is no such kart",
                () -> noSuchKart((x, kart) -> x.rank(kart)));
        says("Throws `IllegalStateException` if no race is on", () -> onlyInARace((x, kart) -> x.rank(kart)));
    }

    private void rankByRecord() {
        part("Promise 16");
        says("Returns the same, found by going through all passings of the race once more, and sorting the karts.",
                () -> {
            Leaguewheel x = circle(6, 2);
            due("no passing", Cups.ranksByRecord(x), "012345");
            Cups.go(x, 5, 3);
            due("one passing", Cups.ranksByRecord(x), "012345");
            for (int step = 0; step < 28; step++) {
                int kart = step * 5 % 6;
                int gate = x.gateOf(kart);
                int to = step % 11 == 0 ? (gate + 3) % 4 : (gate + 1) % 4;
                Check.answerOf(() -> x.pass(kart, to));
                due("step " + step, Cups.ranksByRecord(x), Cups.ranks(x));
            }
            int[] gates = {x.gateOf(0), x.lapsOf(0), x.missing(0)};
            due("asking again", x.rankByRecord(0), x.rank(0));
            due("asking moves no kart", x.gateOf(0), gates[0]);
            due("nor gives a lap", x.lapsOf(0), gates[1]);
            due("nor a gate", x.missing(0), gates[2]);
            x.end();
            x.start(2);
            due("the passings of the last race do not count", Cups.ranksByRecord(x), "012345");
        });
        says("- `kart`: a kart", () -> {
            Leaguewheel x = circle(6, 1);
            for (int kart = 5; kart >= 0; kart--) {
                Cups.lap(x, kart);
            }
            for (int kart = 0; kart < 6; kart++) {
                due("kart " + kart, x.rankByRecord(kart), 5 - kart);
            }
        });
        says("Returns 0 for the first one.", () -> {
            Leaguewheel x = circle(1, 9);
            due("alone", x.rankByRecord(0), 0);
            for (int passing = 0; passing < 490; passing++) {
                Cups.go(x, 0, passing % 2 == 0 ? 1 : 0);
            }
            due("after 490 passings", x.rankByRecord(0), 0);
        });
        says("Throws `IndexOutOfBoundsException` if there is no such kart",
                () -> noSuchKart((x, kart) -> x.rankByRecord(kart)));
        says("Throws `IllegalStateException` if no race is on", () -> onlyInARace((x, kart) -> x.rankByRecord(kart)));
    }

    private static int catchUpWithLead(int lead) {
        int ways = (lead + 99) / 100;
        int[] lengths = new int[ways + 1];
        Arrays.fill(lengths, 100);
        lengths[ways - 1] = lead - 100 * (ways - 1);
        Leaguewheel x = Cups.circle(false, 2, lengths);
        x.start(9);
        for (int gate = 1; gate <= ways; gate++) {
            x.pass(0, gate);
        }
        return x.catchUp(1);
    }

    private void catchUp() {
        part("Promise 17");
        says("Returns by how many hundredths a kart may go faster: a tenth of the lead over it, rounded down, but at"
                + " most 25.", () -> {
            int[][] leads = {{1, 0}, {9, 0}, {10, 1}, {11, 1}, {19, 1}, {20, 2}, {100, 10}, {199, 19}, {200, 20},
                {239, 23}, {240, 24}, {249, 24}, {250, 25}, {259, 25}, {260, 25}, {300, 25}};
            for (int[] lead : leads) {
                due("a lead of " + lead[0], catchUpWithLead(lead[0]), lead[1]);
            }
            Leaguewheel x = Cups.greatCircle(2);
            x.start(9);
            Cups.lap(x, 0);
            due("1200", x.catchUp(1), 25);
        });
        says("- `kart`: a kart", () -> {
            Leaguewheel x = Cups.circle(true, 6, 10, 10, 10, 10, 10, 10);
            x.start(1);
            for (int kart = 0; kart < 6; kart++) {
                for (int gate = 1; gate <= kart; gate++) {
                    x.pass(kart, gate);
                }
            }
            for (int kart = 0; kart < 6; kart++) {
                due("kart " + kart, x.catchUp(kart), 5 - kart);
            }
        });
        says("Returns 0 to 25.", () -> {
            Leaguewheel x = Cups.ring(100, 2);
            x.start(1);
            due("the least", x.catchUp(1), 0);
            Cups.lap(x, 0);
            due("200 of a finished one", x.catchUp(1), 20);
            due("the finished one itself", x.catchUp(0), 0);
            Leaguewheel far = Cups.greatCircle(2);
            far.start(9);
            for (int debt = 0; debt < 2; debt++) {
                Cups.go(far, 1, 11, 10, 9, 8, 7, 6, 5, 4, 3, 2, 1, 0);
            }
            for (int lap = 0; lap < 9; lap++) {
                Cups.lap(far, 0);
            }
            due("the greatest", far.catchUp(1), 25);
            due("and the least beside it", far.catchUp(0), 0);
        });
        says("Throws `IndexOutOfBoundsException` if there is no such kart",
                () -> noSuchKart((x, kart) -> x.catchUp(kart)));
        says("Throws `IllegalStateException` if no race is on", () -> onlyInARace((x, kart) -> x.catchUp(kart)));
    }
}
