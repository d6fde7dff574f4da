/** Cups that several tests begin with. */
final class Cups {
    private Cups() {
    }

    /** Gates 1 and 3 needed, 2 not; rests 26, 16, 9, 5. */
    static Leaguewheel fork() {
        Leaguewheel x = new Leaguewheel();
        x.addGate(true);
        x.addGate(false);
        x.addGate(true);
        x.addWay(0, 1, 10);
        x.addWay(1, 2, 7);
        x.addWay(1, 3, 12);
        x.addWay(2, 3, 4);
        x.addWay(3, 0, 5);
        return x;
    }

    /** The fork with karts of these teams. */
    static Leaguewheel fork(int... teams) {
        Leaguewheel x = fork();
        for (int team : teams) {
            x.addKart(team);
        }
        return x;
    }

    /** A needed gate 1, one way there and one back, each of this length. */
    static Leaguewheel ring(int length, int karts) {
        Leaguewheel x = new Leaguewheel();
        x.addGate(true);
        x.addWay(0, 1, length);
        x.addWay(1, 0, length);
        for (int kart = 0; kart < karts; kart++) {
            x.addKart(kart % 4);
        }
        return x;
    }

    static void go(Leaguewheel x, int kart, int... gates) {
        for (int gate : gates) {
            x.pass(kart, gate);
        }
    }

    /** A race of one lap on a ring, which these karts finish in this order; the others stay at the line. */
    static void raceOnRing(Leaguewheel x, int... finishers) {
        x.start(1);
        for (int kart : finishers) {
            go(x, kart, 1, 0);
        }
        x.end();
    }

    static String text(Leaguewheel x) {
        StringBuilder text = new StringBuilder();
        for (int i = 0; i < x.textLength(); i++) {
            text.append(x.textAt(i));
        }
        return text.toString();
    }
}
