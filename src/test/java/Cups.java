import java.util.Arrays;
import java.util.function.IntUnaryOperator;

/** Cups that several tests begin with. */
final class Cups {
    private Cups() {
    }

    /** Gates 1 and 3 needed, 2 not; rests 26, 16, 9, 5. */
    static Leaguewheel fork() {
        Leaguewheel x = new Leaguewheel();
        x.addGate(true);
        x.addGate(false);
        x.addGate(true);
        x.addWay(0, 1, 10);
        x.addWay(1, 2, 7);
        x.addWay(1, 3, 12);
        x.addWay(2, 3, 4);
        x.addWay(3, 0, 5);
        return x;
    }

    /** The fork with karts of these teams. */
    static Leaguewheel fork(int... teams) {
        Leaguewheel x = fork();
        for (int team : teams) {
            x.addKart(team);
        }
        return x;
    }

    /** A needed gate 1, one way there and one back, each of this length. */
    static Leaguewheel ring(int length, int karts) {
        return circle(true, karts, length, length);
    }

    /** A way of each of these lengths from gate to gate, and with the last one home to the line. */
    static Leaguewheel circle(boolean needed, int karts, int... lengths) {
        Leaguewheel x = new Leaguewheel();
        for (int gate = 1; gate < lengths.length; gate++) {
            x.addGate(needed);
        }
        for (int gate = 0; gate < lengths.length; gate++) {
            x.addWay(gate, (gate + 1) % lengths.length, lengths[gate]);
        }
        for (int kart = 0; kart < karts; kart++) {
            x.addKart(kart % 4);
        }
        return x;
    }

    /** All twelve gates, the eleven besides the line needed, and ways of length 100. */
    static Leaguewheel greatCircle(int karts) {
        int[] lengths = new int[12];
        Arrays.fill(lengths, 100);
        return circle(true, karts, lengths);
    }

    static void go(Leaguewheel x, int kart, int... gates) {
        for (int gate : gates) {
            x.pass(kart, gate);
        }
    }

    /** Once round a circle, and over the line; the last answer. */
    static int lap(Leaguewheel x, int kart) {
        for (int gate = 1; gate < x.gates(); gate++) {
            x.pass(kart, gate);
        }
        return x.pass(kart, 0);
    }

    /** A race of one lap on a ring, which these karts finish in this order; the others stay at the line. */
    static void raceOnRing(Leaguewheel x, int... finishers) {
        x.start(1);
        for (int kart : finishers) {
            go(x, kart, 1, 0);
        }
        x.end();
    }

    /** Some x from which the next item is the one at this place of its rank. */
    static int numberFor(int place) {
        for (int x = 0; x < 1_000_000; x++) {
            if (((x * 1103515245 + 12345) >>> 16) % 4 == place) {
                return x;
            }
        }
        throw new AssertionError("no number for place " + place);
    }

    /** The items of a rank by their places. */
    static int[] itemsOfRank(int rank) {
        int boost = Leaguewheel.BOOST;
        int shell = Leaguewheel.SHELL;
        int shield = Leaguewheel.SHIELD;
        int bolt = Leaguewheel.BOLT;
        if (rank == 0) {
            return new int[] {shield, shield, shell, boost};
        }
        return rank <= 2 ? new int[] {shell, shield, boost, shell} : new int[] {bolt, boost, shell, bolt};
    }

    /** Lets a kart draw this item, which its rank must have. */
    static void give(Leaguewheel x, int kart, int item) {
        int[] items = itemsOfRank(x.rank(kart));
        int place = 0;
        while (items[place] != item) {
            place++;
        }
        x.setDraw(numberFor(place));
        if (x.draw(kart) != item) {
            throw new AssertionError("kart " + kart + " did not draw " + item);
        }
    }

    static int use(Leaguewheel x, int kart, int item) {
        give(x, kart, item);
        return x.use(kart);
    }

    /** The stuns of all karts, one digit each. */
    static String stuns(Leaguewheel x) {
        return digits(x, kart -> x.stunned(kart));
    }

    static String ranks(Leaguewheel x) {
        return digits(x, kart -> x.rank(kart));
    }

    static String ranksByRecord(Leaguewheel x) {
        return digits(x, kart -> x.rankByRecord(kart));
    }

    private static String digits(Leaguewheel x, IntUnaryOperator answer) {
        StringBuilder digits = new StringBuilder();
        int karts = x.karts();
        for (int kart = 0; kart < karts; kart++) {
            digits.append(answer.applyAsInt(kart));
        }
        return digits.toString();
    }

    /** The points of all karts, with blanks between them. */
    static String points(Leaguewheel x) {
        StringBuilder points = new StringBuilder();
        for (int kart = 0; kart < x.karts(); kart++) {
            points.append(kart == 0 ? "" : " ").append(x.points(kart));
        }
        return points.toString();
    }

    static String text(Leaguewheel x) {
        StringBuilder text = new StringBuilder();
        for (int i = 0; i < x.textLength(); i++) {
            text.append(x.textAt(i));
        }
        return text.toString();
    }
}
