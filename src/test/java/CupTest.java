/** Promises 23 to 31: ended races, points, and the standing. */
final class CupTest {
    private static final Check check = new Check("CupTest");

    public static void main(String[] args) {
        end();
        pointsByPlace();
        pointsOfTheUnfinished();
        placesOfEndedRaces();
        setDropped();
        droppedAreTheWorst();
        teamPoints();
        standingByPoints();
        standingByPlaces();
        standingByLaterPlaces();
        standingByNumber();
        standingBetweenTheRaces();
        text();
        eightRaces();
        check.finish();
    }

    private static void standing(String what, Leaguewheel x, String want) {
        check.due("30, 31: " + what, Cups.text(x), want);
        for (int place = 0; place < x.karts(); place++) {
            check.due("29: " + what, x.standing(want.charAt(2 * place) - '0'), place);
        }
    }

    private static void end() {
        Leaguewheel x = Cups.ring(5, 3);
        check.diesOfState("23: no race is on", () -> x.end());
        check.due("24: none", x.races(), 0);
        x.start(1);
        check.due("24: one that is on is not ended", x.races(), 0);
        Cups.go(x, 2, 1, 0);
        Cups.go(x, 0, 1);
        check.due("23: the first one", x.end(), 2);
        check.due("24: one", x.races(), 1);
        check.diesOfState("23: ended already", () -> x.end());
        check.due("24: one still", x.races(), 1);
        x.start(1);
        check.due("23: nobody passed", x.end(), 0);
        check.due("24: two", x.races(), 2);
    }

    private static void pointsByPlace() {
        Leaguewheel x = Cups.ring(5, 6);
        check.due("27: before", Cups.points(x), "0 0 0 0 0 0");
        x.start(1);
        for (int kart : new int[] {3, 1, 5, 0, 2, 4}) {
            Cups.go(x, kart, 1, 0);
        }
        check.due("27: while the race is on", Cups.points(x), "0 0 0 0 0 0");
        x.end();
        check.due("27: after", Cups.points(x), "5 8 4 10 3 6");
        for (int kart : new int[] {-1, 6, Integer.MIN_VALUE}) {
            check.diesOfIndex("27: no such kart", () -> x.points(kart));
        }
        Leaguewheel y = Cups.ring(5, 2);
        check.diesOfIndex("27: no third kart", () -> y.points(2));
    }

    private static void pointsOfTheUnfinished() {
        Leaguewheel x = Cups.ring(5, 4);
        x.start(2);
        Cups.go(x, 3, 1, 0);
        Cups.go(x, 1, 1);
        x.end();
        check.due("27: a lap is enough, none is not", Cups.points(x), "0 0 0 10");
        check.due("25: but there is a place", x.place(0, 1), 1);

        Leaguewheel y = Cups.fork(0, 1, 2);
        y.start(3);
        Cups.go(y, 0, 1, 3, 0, 3);
        Cups.go(y, 1, 1, 3, 0, 1, 3, 0, 3);
        Cups.go(y, 2, 3);
        y.end();
        check.due("27: laps less debts", Cups.points(y), "0 10 0");
    }

    private static void placesOfEndedRaces() {
        Leaguewheel x = Cups.ring(5, 3);
        check.diesOfIndex("25: no race", () -> x.place(0, 0));
        x.start(1);
        check.diesOfIndex("25: one that is on", () -> x.place(0, 0));
        Cups.go(x, 1, 1, 0);
        x.end();
        Cups.raceOnRing(x, 2, 0, 1);
        String places = "";
        for (int race = 0; race < 2; race++) {
            for (int kart = 0; kart < 3; kart++) {
                places += x.place(race, kart);
            }
        }
        check.due("25: places", places, "102120");
        check.diesOfIndex("25: race 2", () -> x.place(2, 0));
        check.diesOfIndex("25: race -1", () -> x.place(-1, 0));
        check.diesOfIndex("25: kart 3", () -> x.place(0, 3));
        check.diesOfIndex("25: kart -1", () -> x.place(0, -1));
        check.diesOfIndex("25: neither", () -> x.place(Integer.MAX_VALUE, Integer.MIN_VALUE));
    }

    private static void setDropped() {
        Leaguewheel x = new Leaguewheel();
        check.due("26: 0 at first", x.setDropped(2), 0);
        check.due("26: then 2", x.setDropped(3), 2);
        check.diesOfArgument("26: 4", () -> x.setDropped(4));
        check.diesOfArgument("26: -1", () -> x.setDropped(-1));
        check.due("26: 3 still", x.setDropped(0), 3);
    }

    private static void droppedAreTheWorst() {
        Leaguewheel x = Cups.ring(5, 3);
        Cups.raceOnRing(x, 0, 1, 2);
        Cups.raceOnRing(x, 1, 2, 0);
        Cups.raceOnRing(x, 0, 2, 1);
        Cups.raceOnRing(x, 1, 0);
        check.due("27: none dropped", Cups.points(x), "34 34 22");
        x.setDropped(1);
        check.due("27: one dropped", Cups.points(x), "28 28 22");
        x.setDropped(2);
        check.due("27: two dropped", Cups.points(x), "20 20 16");
        x.setDropped(3);
        check.due("27: three dropped", Cups.points(x), "10 10 8");
        x.setDropped(0);
        check.due("27: none again", Cups.points(x), "34 34 22");

        Leaguewheel y = Cups.ring(5, 1);
        Cups.raceOnRing(y, 0);
        y.setDropped(1);
        check.due("27: the only race", y.points(0), 0);
        y.setDropped(3);
        check.due("27: more than there are", y.points(0), 0);
        Cups.raceOnRing(y, 0);
        Cups.raceOnRing(y, 0);
        check.due("27: as many as there are", y.points(0), 0);
        Cups.raceOnRing(y, 0);
        check.due("27: one more, all alike", y.points(0), 10);
        y.setDropped(2);
        check.due("27: two more, all alike", y.points(0), 20);
    }

    private static void teamPoints() {
        Leaguewheel x = new Leaguewheel();
        check.due("28: without karts", x.teamPoints(3), 0);
        x.addGate(true);
        x.addWay(0, 1, 5);
        x.addWay(1, 0, 5);
        for (int team : new int[] {3, 0, 3, 1, 3, 0}) {
            x.addKart(team);
        }
        Cups.raceOnRing(x, 0, 1, 2, 3, 4, 5);
        Cups.raceOnRing(x, 5, 4);
        check.due("28: team 0", x.teamPoints(0), 8 + 3 + 10);
        check.due("28: team 1", x.teamPoints(1), 5);
        check.due("28: team 2", x.teamPoints(2), 0);
        check.due("28: team 3", x.teamPoints(3), 10 + 6 + 4 + 8);
        x.setDropped(1);
        check.due("28: each kart drops its own", x.teamPoints(3), 10 + 6 + 8);
        check.diesOfIndex("28: team 4", () -> x.teamPoints(4));
        check.diesOfIndex("28: team -1", () -> x.teamPoints(-1));
    }

    private static void standingByPoints() {
        Leaguewheel x = Cups.ring(5, 4);
        standing("before a race", x, "0>1>2>3");
        Cups.raceOnRing(x, 2, 3, 0);
        standing("after a race", x, "2>3>0>1");
        Cups.raceOnRing(x, 3);
        standing("after two", x, "3>2>0>1");
        x.setDropped(1);
        standing("the one that had the place 0 and 1 goes before 0 and 2", x, "3>2>0>1");
        for (int kart : new int[] {-1, 4, Integer.MAX_VALUE}) {
            check.diesOfIndex("29: no such kart", () -> x.standing(kart));
        }
    }

    /** The karts 0 and 2 have 18 points both, 0 by the places 0 and 1, 2 by the place 2 thrice. */
    private static void standingByPlaces() {
        Leaguewheel x = Cups.ring(5, 4);
        Cups.raceOnRing(x, 1, 3, 2);
        Cups.raceOnRing(x, 1, 3, 2);
        Cups.raceOnRing(x, 1, 0, 2);
        Cups.raceOnRing(x, 0);
        check.due("27: as many points", Cups.points(x), "18 30 18 16");
        standing("the place 0 more often", x, "1>0>2>3");
        x.setDropped(3);
        check.due("27: the best race each", Cups.points(x), "10 10 6 8");
        standing("three times the place 0 in all races", x, "1>0>3>2");

        Leaguewheel y = Cups.ring(5, 3);
        Cups.raceOnRing(y, 2, 1);
        Cups.raceOnRing(y, 0, 1);
        Cups.raceOnRing(y, 0, 2);
        y.setDropped(3);
        check.due("27: all dropped", Cups.points(y), "0 0 0");
        standing("all races count for the places", y, "0>2>1");
    }

    /** With all races dropped, or none that gave points, the places alone tell. */
    private static void standingByLaterPlaces() {
        Leaguewheel x = Cups.ring(5, 6);
        Cups.raceOnRing(x, 0, 1, 2, 3, 4, 5);
        Cups.raceOnRing(x, 0, 1, 2, 5, 4, 3);
        x.setDropped(2);
        standing("3 and 5 alike, 4 twice the place 4", x, "0>1>2>3>5>4");
        Cups.raceOnRing(x, 0, 1, 2, 5, 3, 4);
        x.setDropped(3);
        standing("5 had the place 3 more often", x, "0>1>2>5>3>4");
        Leaguewheel y = Cups.ring(5, 3);
        Cups.raceOnRing(y, 0, 2, 1);
        y.setDropped(1);
        standing("the place 1", y, "0>2>1");
        Leaguewheel z = Cups.ring(5, 6);
        z.start(1);
        Cups.go(z, 5, 1);
        z.end();
        standing("without points the places tell", z, "5>0>1>2>3>4");
    }

    private static void standingByNumber() {
        Leaguewheel x = Cups.ring(5, 3);
        Cups.raceOnRing(x, 2, 1, 0);
        Cups.raceOnRing(x, 0, 1, 2);
        check.due("27: 10 and 6, twice 8", Cups.points(x), "16 16 16");
        standing("alike, so the lower number; the place 1 is less", x, "0>2>1");
    }

    private static void standingBetweenTheRaces() {
        Leaguewheel x = Cups.ring(5, 2);
        x.start(1);
        Cups.go(x, 1, 1, 0);
        standing("a race that is on does not count", x, "0>1");
        x.end();
        standing("an ended one does", x, "1>0");
    }

    private static void text() {
        Leaguewheel x = new Leaguewheel();
        check.due("30: without karts", x.textLength(), 0);
        check.diesOfIndex("31: without karts", () -> x.textAt(0));
        check.diesOfIndex("31: -1 without karts", () -> x.textAt(-1));
        for (int karts = 1; karts <= 6; karts++) {
            x.addKart(0);
            check.due("30: with " + karts, x.textLength(), 2 * karts - 1);
            int length = 2 * karts - 1;
            check.due("31: the last one", x.textAt(length - 1), (char) ('0' + karts - 1));
            check.diesOfIndex("31: behind the end", () -> x.textAt(length));
        }
        check.due("31: the first one", x.textAt(0), '0');
        check.due("31: the sign between", x.textAt(1), '>');
        check.diesOfIndex("31: -1", () -> x.textAt(-1));
        check.diesOfIndex("31: least int", () -> x.textAt(Integer.MIN_VALUE));
        check.diesOfIndex("31: greatest int", () -> x.textAt(Integer.MAX_VALUE));
    }

    private static void eightRaces() {
        Leaguewheel x = Cups.ring(5, 6);
        for (int race = 0; race < 8; race++) {
            Cups.raceOnRing(x, 5, 4, 3, 2, 1, 0);
        }
        check.due("24: eight", x.races(), 8);
        check.due("25: the last place of all", x.place(7, 5), 0);
        check.due("27: eight races", Cups.points(x), "24 32 40 48 64 80");
        x.setDropped(3);
        check.due("27: five of eight", Cups.points(x), "15 20 25 30 40 50");
        standing("eight races", x, "5>4>3>2>1>0");
        check.diesOfIndex("25: a ninth race", () -> x.place(8, 0));
    }
}
