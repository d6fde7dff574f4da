import java.util.ArrayList;
import java.util.Collections;
import java.util.Comparator;
import java.util.List;
import java.util.TreeMap;

/**
 * The document once more, written with lists, maps and comparators, and without regard to cost: what
 * is known of a race is reckoned anew from its passings at each question.
 */
final class Model {
    static final class Kart {
        final int number;
        final int team;
        int gate;
        int laps;
        int debts;
        final List<Integer> passed = new ArrayList<>();
        int lastMoment;
        int item = -1;
        boolean shielded;
        int stunnedUntil;
        final List<Integer> places = new ArrayList<>();
        final List<Integer> points = new ArrayList<>();

        Kart(int number, int team) {
            this.number = number;
            this.team = team;
        }

        int net() {
            return laps - debts;
        }
    }

    final List<Boolean> needed = new ArrayList<>(List.of(false));
    final TreeMap<String, Integer> ways = new TreeMap<>();
    final List<Kart> karts = new ArrayList<>();
    boolean on;
    int started;
    int ended;
    int raceLaps;
    int moment;
    int now;
    int x;
    int dropped;

    static void index(boolean wrong) {
        if (wrong) {
            throw new IndexOutOfBoundsException();
        }
    }

    static void argument(boolean wrong) {
        if (wrong) {
            throw new IllegalArgumentException();
        }
    }

    static void state(boolean wrong) {
        if (wrong) {
            throw new IllegalStateException();
        }
    }

    Kart kart(int number) {
        index(number < 0 || number >= karts.size());
        return karts.get(number);
    }

    void gate(int number) {
        index(number < 0 || number >= needed.size());
    }

    boolean way(int from, int to) {
        return ways.containsKey(from + ">" + to);
    }

    boolean finished(Kart kart) {
        return kart.laps == raceLaps;
    }

    int addGate(boolean isNeeded) {
        state(started > 0 || needed.size() == 12);
        needed.add(isNeeded);
        return needed.size() - 1;
    }

    int addWay(int from, int to, int length) {
        gate(from);
        gate(to);
        argument(!(to > from || to == 0) || from == 0 && to == 0 || length < 1 || length > 100);
        state(started > 0);
        Integer before = ways.put(from + ">" + to, length);
        return before == null ? -1 : before;
    }

    int addKart(int team) {
        index(team < 0 || team > 3);
        state(started > 0 || karts.size() == 6);
        karts.add(new Kart(karts.size(), team));
        return karts.size() - 1;
    }

    /** By all paths, one after the other. */
    int rest(int gate) {
        gate(gate);
        int least = way(gate, 0) ? ways.get(gate + ">0") : -1;
        for (int next = gate + 1; next < needed.size(); next++) {
            if (way(gate, next) && rest(next) != -1) {
                int sum = ways.get(gate + ">" + next) + rest(next);
                least = least == -1 || sum < least ? sum : least;
            }
        }
        return least;
    }

    int start(int laps) {
        argument(laps < 1 || laps > 9);
        state(on || started == 8 || karts.isEmpty());
        for (int gate = 0; gate < needed.size(); gate++) {
            String from = gate + ">";
            state(ways.keySet().stream().noneMatch(way -> way.startsWith(from)));
        }
        for (Kart kart : karts) {
            kart.gate = 0;
            kart.laps = 0;
            kart.debts = 0;
            kart.passed.clear();
            kart.lastMoment = -1;
            kart.item = -1;
            kart.shielded = false;
            kart.stunnedUntil = now;
        }
        raceLaps = laps;
        moment = 0;
        on = true;
        return started++;
    }

    int pass(int number, int to) {
        Kart kart = kart(number);
        gate(to);
        state(!on);
        state(finished(kart) || now < kart.stunnedUntil);
        int from = kart.gate;
        state(!way(from, to) && !way(to, from));
        kart.lastMoment = moment++;
        kart.gate = to;
        if (way(from, to)) {
            return forwards(kart, to);
        }
        if (from == 0) {
            kart.debts++;
        } else {
            kart.passed.remove(Integer.valueOf(from));
        }
        return Leaguewheel.WRONG;
    }

    private int forwards(Kart kart, int to) {
        if (to != 0) {
            if (needed.get(to) && kart.debts == 0 && !kart.passed.contains(to)) {
                kart.passed.add(to);
            }
            return Leaguewheel.RIGHT;
        }
        boolean all = missing(kart.number) == 0;
        kart.passed.clear();
        if (kart.debts > 0) {
            kart.debts--;
            return Leaguewheel.PAID;
        }
        if (!all) {
            return Leaguewheel.MISSED;
        }
        kart.laps++;
        return finished(kart) ? Leaguewheel.FINISHED : Leaguewheel.LAP;
    }

    int idle(int ticks) {
        argument(ticks < 1 || ticks > 100);
        now += ticks;
        return now;
    }

    int gateOf(int number) {
        Kart kart = kart(number);
        state(!on);
        return kart.gate;
    }

    int lapsOf(int number) {
        Kart kart = kart(number);
        state(!on);
        return kart.net();
    }

    int missing(int number) {
        Kart kart = kart(number);
        state(!on);
        int sum = 0;
        for (int gate = 0; gate < needed.size(); gate++) {
            if (needed.get(gate) && !kart.passed.contains(gate)) {
                sum += (int) Math.pow(2, gate);
            }
        }
        return sum;
    }

    List<Kart> ranked() {
        List<Kart> order = new ArrayList<>(karts);
        order.sort(Comparator.<Kart>comparingInt(kart -> finished(kart) ? 0 : 1)
                .thenComparingInt(kart -> finished(kart) ? kart.lastMoment : 0)
                .thenComparingInt(kart -> -kart.net())
                .thenComparingInt(kart -> rest(kart.gate))
                .thenComparingInt(kart -> kart.lastMoment)
                .thenComparingInt(kart -> kart.number));
        return order;
    }

    int rank(int number) {
        Kart kart = kart(number);
        state(!on);
        return ranked().indexOf(kart);
    }

    private int done(Kart kart) {
        return kart.net() * rest(0) + (kart.gate == 0 ? 0 : rest(0) - rest(kart.gate));
    }

    int catchUp(int number) {
        Kart kart = kart(number);
        state(!on);
        int lead = Math.max(0, done(ranked().get(0)) - done(kart));
        return Math.min(25, lead / 10);
    }

    void setDraw(int number) {
        x = number;
    }

    int draw(int number) {
        Kart kart = kart(number);
        state(!on);
        state(finished(kart) || kart.item != -1);
        x = (int) (x * 1103515245L + 12345L);
        int d = (int) ((x & 0xffffffffL) / 65536 % 4);
        int rank = rank(number);
        List<Integer> items = rank == 0 ? List.of(2, 2, 1, 0) : rank < 3 ? List.of(1, 2, 0, 1) : List.of(3, 0, 1, 3);
        kart.item = items.get(d);
        return kart.item;
    }

    int use(int number) {
        Kart kart = kart(number);
        state(!on);
        state(finished(kart) || kart.item == -1);
        int item = kart.item;
        kart.item = -1;
        if (item == Leaguewheel.BOOST) {
            kart.stunnedUntil = now;
        }
        if (item == Leaguewheel.SHIELD) {
            kart.shielded = true;
        }
        List<Kart> ahead = ranked().subList(0, rank(number));
        int hits = 0;
        if (item == Leaguewheel.SHELL && !ahead.isEmpty()) {
            hits += hit(ahead.get(ahead.size() - 1), 5);
        }
        if (item == Leaguewheel.BOLT) {
            for (Kart other : ahead) {
                hits += hit(other, 2);
            }
        }
        return hits;
    }

    private int hit(Kart kart, int ticks) {
        if (finished(kart)) {
            return 0;
        }
        if (kart.shielded) {
            kart.shielded = false;
            return 0;
        }
        if (now + ticks > kart.stunnedUntil) {
            kart.stunnedUntil = now + ticks;
        }
        return 1;
    }

    int itemOf(int number) {
        Kart kart = kart(number);
        return on ? kart.item : -1;
    }

    int stunned(int number) {
        Kart kart = kart(number);
        return on && now < kart.stunnedUntil ? kart.stunnedUntil - now : 0;
    }

    int end() {
        state(!on);
        List<Kart> order = ranked();
        for (int place = 0; place < order.size(); place++) {
            Kart kart = order.get(place);
            kart.places.add(place);
            kart.points.add(finished(kart) || kart.net() > 0 ? List.of(10, 8, 6, 5, 4, 3).get(place) : 0);
        }
        on = false;
        ended++;
        return order.get(0).number;
    }

    int place(int race, int number) {
        index(race < 0 || race >= ended);
        return kart(number).places.get(race);
    }

    int setDropped(int races) {
        argument(races < 0 || races > 3);
        int before = dropped;
        dropped = races;
        return before;
    }

    int points(int number) {
        List<Integer> points = new ArrayList<>(kart(number).points);
        Collections.sort(points);
        return points.stream().skip(dropped).mapToInt(Integer::intValue).sum();
    }

    int teamPoints(int team) {
        index(team < 0 || team > 3);
        return karts.stream().filter(kart -> kart.team == team).mapToInt(kart -> points(kart.number)).sum();
    }

    List<Kart> standings() {
        Comparator<Kart> best = Comparator.comparingInt(kart -> -points(kart.number));
        for (int place = 0; place < 6; place++) {
            int which = place;
            best = best.thenComparingInt(kart -> -Collections.frequency(kart.places, which));
        }
        List<Kart> order = new ArrayList<>(karts);
        order.sort(best.thenComparingInt(kart -> kart.number));
        return order;
    }

    int standing(int number) {
        return standings().indexOf(kart(number));
    }

    String text() {
        List<String> numbers = new ArrayList<>();
        for (Kart kart : standings()) {
            numbers.add(String.valueOf(kart.number));
        }
        return String.join(">", numbers);
    }

    char textAt(int at) {
        index(at < 0 || at >= text().length());
        return text().charAt(at);
    }
}
