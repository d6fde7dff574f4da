import java.util.Set;

/** The edges of the cup: its terms, and the promises 23 to 31. */
final class CupEdges extends Edges {
    CupEdges(Check check, Set<String> tested) {
        super(check, tested);
    }

    @Override
    void test() {
        part("The cup");
        termsOfPoints();
        termsOfDropping();
        termsOfStanding();
        endAndRaces();
        place();
        setDropped();
        points();
        teamPoints();
        standing();
        textLength();
        textAt();
    }

    /** Eight races which all six karts finish, the last one first. */
    private static Leaguewheel eightRaces() {
        Leaguewheel x = Cups.ring(5, 6);
        for (int race = 0; race < 8; race++) {
            Cups.raceOnRing(x, 5, 4, 3, 2, 1, 0);
        }
        return x;
    }

    private void standing(String what, Leaguewheel x, String want) {
        due(what, Cups.text(x), want);
        for (int place = 0; place < x.karts(); place++) {
            due(what + ", place " + place, x.standing(want.charAt(2 * place) - '0'), place);
        }
    }

    private void termsOfPoints() {
        says("When a race is ended, the karts have places by their ranks, from 0;", () -> {
            Leaguewheel x = Cups.circle(true, 6, 1, 1, 1, 1);
            x.start(1);
            Cups.lap(x, 3);
            Cups.go(x, 5, 1, 2);
            Cups.go(x, 1, 1);
            Cups.go(x, 2, 3);
            String ranks = Cups.ranks(x);
            x.end();
            StringBuilder places = new StringBuilder();
            for (int kart = 0; kart < 6; kart++) {
                places.append(x.place(0, kart));
            }
            due("the ranks", ranks, "325041");
            due("are the places", places.toString(), ranks);
        });
        says("a kart with the place 0 to 5 gets 10, 8, 6, 5, 4 or 3 points, but a kart that is not finished, and whose"
                + " laps less its debts are not above 0, gets none.", () -> {
            Leaguewheel all = Cups.ring(5, 6);
            Cups.raceOnRing(all, 0, 1, 2, 3, 4, 5);
            due("all finished", Cups.points(all), "10 8 6 5 4 3");
            Leaguewheel none = Cups.circle(true, 6, 1, 1, 1, 1);
            none.start(9);
            Cups.go(none, 2, 1, 2, 3);
            none.end();
            due("none above 0", Cups.points(none), "0 0 0 0 0 0");
            Leaguewheel some = Cups.circle(true, 6, 1, 1, 1, 1);
            some.start(2);
            Cups.lap(some, 0);
            Cups.lap(some, 1);
            Cups.go(some, 1, 3);
            Cups.lap(some, 2);
            Cups.lap(some, 2);
            Cups.go(some, 3, 3);
            Cups.lap(some, 4);
            Cups.go(some, 4, 3, 0, 3, 0);
            some.end();
            due("1; 1 less 1; finished; -1; 1 with debts paid; 0", Cups.points(some), "8 0 10 0 6 0");
        });
        says("There are up to 8 races, numbered from 0.", () -> {
            Leaguewheel x = Cups.ring(5, 1);
            for (int race = 0; race < 8; race++) {
                due("race " + race, x.start(1), race);
                x.end();
            }
            state("a ninth", () -> x.start(1));
            due("race 0 has places", x.place(0, 0), 0);
            due("race 7 has places", x.place(7, 0), 0);
            index("race 8 has none", () -> x.place(8, 0));
        });
    }

    private void termsOfDropping() {
        says("The points of a kart are those of all ended races without its worst ones, as many as are dropped;", () -> {
            Leaguewheel x = Cups.ring(5, 3);
            Cups.raceOnRing(x, 0, 1, 2);
            Cups.raceOnRing(x, 1, 0, 2);
            Cups.raceOnRing(x, 2, 1);
            Cups.raceOnRing(x, 0, 2);
            due("0: 10 8 0 10; 1: 8 10 8 0; 2: 6 6 10 8", Cups.points(x), "28 26 30");
            x.setDropped(1);
            due("one, each its own; of two alike one only", Cups.points(x), "28 26 24");
            x.setDropped(2);
            due("two", Cups.points(x), "20 18 18");
            x.setDropped(3);
            due("three: the best one alone", Cups.points(x), "10 10 10");
        });
        says("dropped are 0 at first.", () -> {
            Leaguewheel x = Cups.ring(5, 1);
            Cups.raceOnRing(x, 0);
            due("the only race counts", x.points(0), 10);
            due("none before", x.setDropped(0), 0);
        });
    }

    private void termsOfStanding() {
        says("The standing puts karts with more points first;", () -> {
            Leaguewheel x = Cups.ring(5, 6);
            standing("no race", x, "0>1>2>3>4>5");
            Cups.raceOnRing(x, 5, 4, 3, 2, 1, 0);
            standing("one race", x, "5>4>3>2>1>0");
            Cups.raceOnRing(x, 0, 1, 2, 3, 4, 5);
            Cups.raceOnRing(x, 0, 4, 3);
            standing("23, 12, 11, 17, 20, 13 points", x, "0>4>3>5>1>2");
            Leaguewheel more = Cups.ring(5, 2);
            Cups.raceOnRing(more, 1, 0);
            Cups.raceOnRing(more, 0);
            standing("18 to 8", more, "0>1");
            more.setDropped(1);
            standing("10 to 8, one dropped", more, "0>1");
        });
        says("of those with as many the one that had the place 0 more often, then the one that had the place 1 more"
                + " often, and so on, in all ended races;", () -> {
            Leaguewheel x = Cups.ring(5, 3);
            Cups.raceOnRing(x, 1, 2, 0);
            Cups.raceOnRing(x, 2, 1, 0);
            Cups.raceOnRing(x, 2);
            x.setDropped(2);
            due("the best race of three", Cups.points(x), "6 10 10");
            standing("the place 0 twice, and dropped races count", x, "2>1>0");
            Cups.raceOnRing(x, 1);
            x.setDropped(3);
            due("the best race of four", Cups.points(x), "6 10 10");
            standing("as often the place 0, as often the place 1, then the number", x, "1>2>0");
            for (int place = 0; place < 6; place++) {
                placeMoreOften(place);
            }
        });
        says("then the one with the lower number.", () -> {
            Leaguewheel x = Cups.ring(5, 2);
            Cups.raceOnRing(x, 1, 0);
            Cups.raceOnRing(x, 0, 1);
            standing("the same places in another order", x, "0>1");
            Leaguewheel six = new Leaguewheel();
            for (int kart = 0; kart < 6; kart++) {
                six.addKart(Math.min(5 - kart, 3));
            }
            standing("no race at all", six, "0>1>2>3>4>5");
        });
        says("The text of the standing is the numbers of the karts in this order, with \">\" between them.", () -> {
            due("no karts", Cups.text(new Leaguewheel()), "");
            due("one kart", Cups.text(Cups.ring(5, 1)), "0");
            due("two karts", Cups.text(Cups.ring(5, 2)), "0>1");
            due("six karts", Cups.text(eightRaces()), "5>4>3>2>1>0");
        });
    }

    /** The karts 0 and 5 have the same places but for one race in which 5 had this one, and 0 the next or none. */
    private void placeMoreOften(int place) {
        Leaguewheel x = Cups.ring(5, 6);
        int[] others = {1, 2, 3, 4};
        raceWith(x, others, place, 5);
        x.setDropped(3);
        due("all dropped", Cups.points(x), "0 0 0 0 0 0");
        boolean before = x.place(0, 5) < x.place(0, 0);
        due("the place " + place + " once", x.standing(5) < x.standing(0), before);
        raceWith(x, others, place, 0);
        due("each has it once: the lower number", x.standing(0) < x.standing(5), true);
        raceWith(x, others, place, 5);
        due("twice to once", x.standing(5) < x.standing(0), before);
    }

    /** A race in which all finish: the others in their order, this kart at the place, its rival right behind or last. */
    private static void raceWith(Leaguewheel x, int[] others, int place, int kart) {
        int[] order = new int[6];
        int rival = 5 - kart;
        int next = 0;
        for (int at = 0; at < 6; at++) {
            boolean rivals = at == place + 1 || place == 5 && at == 4;
            order[at] = at == place ? kart : rivals ? rival : others[next];
            next += at == place || rivals ? 0 : 1;
        }
        Cups.raceOnRing(x, order);
    }

    private void endAndRaces() {
        part("Promise 23");
        says("Ends the race that is on.", () -> {
            Leaguewheel x = Cups.ring(5, 2);
            x.start(1);
            x.end();
            due("none is on", x.isOn(), false);
            due("one is ended", x.races(), 1);
            state("nothing passes", () -> x.pass(0, 1));
            due("the next may be started", x.start(1), 1);
        });
        says("Returns the kart with the place 0.", () -> {
            Leaguewheel x = Cups.ring(5, 6);
            x.start(1);
            due("nobody passed", x.end(), 0);
            for (int kart = 0; kart < 6; kart++) {
                x.start(1);
                Cups.go(x, kart, 1);
                due("the only one that passed", x.end(), kart);
                due("has the place 0", x.place(kart + 1, kart), 0);
            }
            x.start(1);
            Cups.lap(x, 5);
            Cups.lap(x, 0);
            due("the first that finished", x.end(), 5);
        });
        says("Throws `IllegalStateException` if no race is on", () -> {
            state("new", () -> new Leaguewheel().end());
            Leaguewheel x = Cups.ring(5, 2);
            for (int race = 0; race < 8; race++) {
                state("before race " + race, () -> x.end());
                x.start(1);
                x.end();
            }
            state("after the eighth", () -> x.end());
            due("no race by that", x.races(), 8);
        });
        part("Promise 24");
        says("Returns how many races were ended.", () -> {
            Leaguewheel x = Cups.ring(5, 1);
            for (int race = 0; race < 8; race++) {
                due("before race " + race, x.races(), race);
                x.start(1);
                due("in race " + race, x.races(), race);
                x.end();
            }
            due("all", x.races(), 8);
            state("one too many", () -> x.start(1));
            due("does not count", x.races(), 8);
        });
    }

    private void place() {
        part("Promise 25");
        says("Returns the place of a kart in an ended race.", () -> {
            Leaguewheel x = Cups.ring(5, 3);
            Cups.raceOnRing(x, 2, 0, 1);
            x.start(1);
            Cups.lap(x, 1);
            due("the next race is on", x.place(0, 2), 0);
            x.end();
            due("the next race is ended", x.place(0, 2), 0);
            due("with its own places", x.place(1, 2), 2);
        });
        says("- `race`: the number of an ended race", () -> {
            Leaguewheel x = Cups.ring(5, 6);
            for (int race = 0; race < 8; race++) {
                Cups.raceOnRing(x, race % 6, (race + 1) % 6);
            }
            for (int race = 0; race < 8; race++) {
                due("the first of race " + race, x.place(race, race % 6), 0);
                due("the second of race " + race, x.place(race, (race + 1) % 6), 1);
            }
        });
        says("- `kart`: a kart", () -> {
            Leaguewheel x = eightRaces();
            for (int kart = 0; kart < 6; kart++) {
                due("kart " + kart, x.place(7, kart), 5 - kart);
            }
        });
        says("Returns 0 for the first one.", () -> {
            Leaguewheel x = Cups.ring(5, 1);
            x.start(1);
            x.end();
            due("alone, without a lap", x.place(0, 0), 0);
            Leaguewheel six = eightRaces();
            due("the first", six.place(0, 5), 0);
            due("the last", six.place(0, 0), 5);
        });
        says("Throws `IndexOutOfBoundsException` if there is no such ended race or kart", () -> {
            noSuchKart((x, kart) -> x.place(0, kart));
            Leaguewheel x = Cups.ring(5, 2);
            outside("no race", 0, x, (cup, race) -> cup.place(race, 0));
            for (int races = 1; races <= 8; races++) {
                x.start(1);
                outside("the one that is on", races - 1, x, (cup, race) -> cup.place(race, 1));
                x.end();
                outside("ended " + races, races, x, (cup, race) -> cup.place(race, 1));
                outside("neither, ended " + races, races, x, (cup, race) -> cup.place(race, 2));
            }
            outside("kart", 2, x, (cup, kart) -> cup.place(7, kart));
        });
    }

    private void setDropped() {
        part("Promise 26");
        says("Sets how many of the worst races of each kart are dropped.", () -> {
            Leaguewheel x = Cups.ring(5, 2);
            Cups.raceOnRing(x, 0, 1);
            Cups.raceOnRing(x, 1);
            x.setDropped(1);
            due("each drops its own", Cups.points(x), "10 10");
            x.start(1);
            x.setDropped(2);
            due("while a race is on", Cups.points(x), "0 0");
            x.setDropped(0);
            due("and back", Cups.points(x), "10 18");
        });
        says("- `races`: 0 to 3", () -> {
            Leaguewheel x = eightRaces();
            int[] points = {80, 70, 60, 50};
            argument("-1", () -> x.setDropped(-1));
            for (int races = 0; races <= 3; races++) {
                x.setDropped(races);
                due("of kart 5 without " + races, x.points(5), points[races]);
            }
            argument("4", () -> x.setDropped(4));
            due("3 are dropped still", x.points(5), 50);
        });
        says("Returns how many were dropped before.", () -> {
            Leaguewheel x = new Leaguewheel();
            due("at first", x.setDropped(3), 0);
            due("the most", x.setDropped(3), 3);
            due("the same once more", x.setDropped(0), 3);
            argument("refused", () -> x.setDropped(4));
            due("does not count", x.setDropped(1), 0);
            due("then", x.setDropped(2), 1);
        });
        says("Throws `IllegalArgumentException` if races is out of range", () -> {
            Leaguewheel x = Cups.ring(5, 1);
            racesOutOfRange("before", x);
            x.start(1);
            racesOutOfRange("in a race", x);
            x.end();
            racesOutOfRange("after", x);
            due("0 are dropped still", x.setDropped(0), 0);
        });
    }

    private void racesOutOfRange(String when, Leaguewheel x) {
        for (int races : new int[] {-1, 4, 5, 8, Integer.MIN_VALUE, Integer.MAX_VALUE}) {
            argument(when + ", " + races, () -> x.setDropped(races));
        }
    }

    private void points() {
        part("Promise 27");
        says("Returns the points of a kart;", () -> {
            Leaguewheel x = Cups.ring(5, 2);
            due("no race", x.points(0), 0);
            x.start(1);
            Cups.lap(x, 0);
            due("a race that is on", x.points(0), 0);
            x.end();
            due("an ended one", x.points(0), 10);
            due("one without points", x.points(1), 0);
        });
        says("0 if all ended races are dropped.", () -> {
            for (int races = 0; races <= 4; races++) {
                Leaguewheel x = Cups.ring(5, 1);
                for (int race = 0; race < races; race++) {
                    Cups.raceOnRing(x, 0);
                }
                for (int dropped = 0; dropped <= 3; dropped++) {
                    x.setDropped(dropped);
                    due(races + " races, dropped " + dropped, x.points(0), 10 * Math.max(races - dropped, 0));
                }
            }
        });
        says("- `kart`: a kart", () -> due("all six", Cups.points(eightRaces()), "24 32 40 48 64 80"));
        says("Returns the points.", () -> {
            Leaguewheel x = Cups.ring(5, 1);
            for (int race = 1; race <= 8; race++) {
                Cups.raceOnRing(x, 0);
                due("up to the most", x.points(0), 10 * race);
            }
        });
        says("Throws `IndexOutOfBoundsException` if there is no such kart",
                () -> noSuchKart((x, kart) -> x.points(kart)));
    }

    private void teamPoints() {
        part("Promise 28");
        says("Returns the points of all karts of a team, together.", () -> {
            Leaguewheel x = Cups.ring(5, 0);
            for (int kart = 0; kart < 6; kart++) {
                x.addKart(kart < 2 ? 1 : 2);
            }
            Cups.raceOnRing(x, 0, 1, 2, 3, 4, 5);
            Cups.raceOnRing(x, 1);
            due("a team without karts", x.teamPoints(0), 0);
            due("two karts", x.teamPoints(1), 28);
            due("four karts", x.teamPoints(2), 18);
            x.setDropped(1);
            due("each kart drops its own worst race", x.teamPoints(1), 20);
        });
        says("- `team`: 0 to 3", () -> {
            Leaguewheel x = Cups.ring(5, 4);
            index("-1", () -> x.teamPoints(-1));
            index("4", () -> x.teamPoints(4));
            Cups.raceOnRing(x, 0, 1, 2, 3);
            int[] points = {10, 8, 6, 5};
            for (int team = 0; team < 4; team++) {
                due("team " + team, x.teamPoints(team), points[team]);
            }
        });
        says("Returns the points.", () -> {
            due("no karts", new Leaguewheel().teamPoints(0), 0);
            Leaguewheel x = Cups.ring(5, 0);
            for (int kart = 0; kart < 6; kart++) {
                x.addKart(0);
            }
            due("no race", x.teamPoints(0), 0);
            for (int race = 1; race <= 8; race++) {
                Cups.raceOnRing(x, 0, 1, 2, 3, 4, 5);
                due("all karts, up to the most", x.teamPoints(0), 36 * race);
            }
        });
        says("Throws `IndexOutOfBoundsException` if there is no such team", () -> {
            outside("no karts", 4, new Leaguewheel(), (x, team) -> x.teamPoints(team));
            Leaguewheel x = Cups.ring(5, 6);
            outside("before", 4, x, (cup, team) -> cup.teamPoints(team));
            x.start(1);
            outside("in a race", 4, x, (cup, team) -> cup.teamPoints(team));
            x.end();
            outside("after", 4, x, (cup, team) -> cup.teamPoints(team));
        });
    }

    private void standing() {
        part("Promise 29");
        says("Returns the place of a kart in the standing.", () -> {
            Leaguewheel x = Cups.ring(5, 3);
            Cups.raceOnRing(x, 2, 1);
            standing("after a race", x, "2>1>0");
            x.start(1);
            Cups.lap(x, 0);
            standing("the next one is on", x, "2>1>0");
            x.end();
            standing("and ended", x, "0>2>1");
        });
        says("- `kart`: a kart", () -> {
            Leaguewheel x = eightRaces();
            for (int kart = 0; kart < 6; kart++) {
                due("kart " + kart, x.standing(kart), 5 - kart);
            }
        });
        says("Returns 0 for the first one.", () -> {
            due("alone", Cups.ring(5, 1).standing(0), 0);
            due("of six", eightRaces().standing(5), 0);
        });
        says("Throws `IndexOutOfBoundsException` if there is no such kart",
                () -> noSuchKart((x, kart) -> x.standing(kart)));
    }

    private void textLength() {
        part("Promise 30");
        says("Returns the length of the text of the standing;", () -> {
            for (int karts = 1; karts <= 6; karts++) {
                due(karts + " karts", Cups.ring(5, karts).textLength(), 2 * karts - 1);
            }
            due("after eight races", eightRaces().textLength(), 11);
        });
        says("0 without karts.", () -> {
            due("new", new Leaguewheel().textLength(), 0);
            due("with gates and ways", Cups.fork().textLength(), 0);
        });
    }

    private void textAt() {
        part("Promise 31");
        says("Returns a character of the text of the standing.", () -> {
            Leaguewheel x = Cups.ring(5, 3);
            Cups.raceOnRing(x, 1, 2, 0);
            char[] text = {'1', '>', '2', '>', '0'};
            for (int at = 0; at < 5; at++) {
                due("at " + at, x.textAt(at), text[at]);
            }
        });
        says("- `index`: 0 for the first one", () -> {
            due("alone", Cups.ring(5, 1).textAt(0), '0');
            due("of six", eightRaces().textAt(0), '5');
            index("-1", () -> eightRaces().textAt(-1));
        });
        says("Returns the character.", () -> {
            due("a sign between", eightRaces().textAt(9), '>');
            due("the last one", eightRaces().textAt(10), '0');
        });
        says("Throws `IndexOutOfBoundsException` if there is no such character", () -> {
            outside("no karts", 0, new Leaguewheel(), (x, at) -> x.textAt(at));
            for (int karts = 1; karts <= 6; karts++) {
                outside(karts + " karts", 2 * karts - 1, Cups.ring(5, karts), (x, at) -> x.textAt(at));
            }
            Leaguewheel x = eightRaces();
            outside("eight races", 11, x, (cup, at) -> cup.textAt(at));
        });
    }
}
