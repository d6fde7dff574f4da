/** A kart cup: a track of gates, races on it, items, and the points of the races. */
public final class Leaguewheel {
    public static final int NONE = -1;
    public static final int RIGHT = 0, LAP = 1, MISSED = 2, WRONG = 3, PAID = 4, FINISHED = 5;
    public static final int BOOST = 0, SHELL = 1, SHIELD = 2, BOLT = 3;

    private static final int LINE = 0;
    private static final int GATE_LIMIT = 12;
    private static final int LENGTH_LIMIT = 100;
    private static final int KART_LIMIT = 6;
    private static final int TEAM_LIMIT = 4;
    private static final int RACE_LIMIT = 8;
    private static final int LAP_LIMIT = 9;
    private static final int IDLE_LIMIT = 100;
    private static final int DROP_LIMIT = 3;
    private static final int CATCH_UP_LIMIT = 25;
    private static final int SHELL_TICKS = 5;
    private static final int BOLT_TICKS = 2;
    /** The document speaks of 512 calls, so a race has fewer passings. */
    private static final int RECORD_LIMIT = 512;

    private final Track track;
    private final Race race;
    /** Kept beside the race, so that telling a race again makes no new rows. */
    private final Race retold;
    private final Passings passings;
    private final Items items;
    private final Cup cup;
    private final int[] teams;
    private int kartCount;
    private boolean raceIsOn;
    private int tick;

    public Leaguewheel() {
        track = new Track();
        race = new Race(track);
        retold = new Race(track);
        passings = new Passings();
        items = new Items();
        cup = new Cup();
        teams = new int[KART_LIMIT];
        kartCount = 0;
        raceIsOn = false;
        tick = 0;
    }

    // ---- the track and the karts

    public int addGate(boolean needed) throws IllegalStateException {
        checkNeverStarted();
        if (track.isFull()) {
            throw new IllegalStateException("there are 12 gates");
        }
        return track.appendGate(needed);
    }

    public int addWay(int from, int to, int length)
            throws IndexOutOfBoundsException, IllegalArgumentException, IllegalStateException {
        checkGate(from);
        checkGate(to);
        if (to <= from && to != LINE) {
            throw new IllegalArgumentException("a way leads to a greater gate or to the line");
        }
        if (from == LINE && to == LINE) {
            throw new IllegalArgumentException("no way leads from the line to the line");
        }
        if (length < 1 || length > LENGTH_LIMIT) {
            throw new IllegalArgumentException("a length is 1 to 100");
        }
        checkNeverStarted();
        int before = track.wayLength(from, to);
        track.layWay(from, to, length);
        return before == 0 ? NONE : before;
    }

    public int addKart(int team) throws IndexOutOfBoundsException, IllegalStateException {
        checkTeam(team);
        checkNeverStarted();
        if (kartCount >= KART_LIMIT) {
            throw new IllegalStateException("there are 6 karts");
        }
        int kart = kartCount;
        teams[kart] = team;
        kartCount++;
        return kart;
    }

    public int gates() {
        return track.gateCount();
    }

    public int karts() {
        return kartCount;
    }

    public int rest(int gate) throws IndexOutOfBoundsException {
        checkGate(gate);
        return track.restOf(gate);
    }

    // ---- races

    public int start(int laps) throws IllegalArgumentException, IllegalStateException {
        if (laps < 1 || laps > LAP_LIMIT) {
            throw new IllegalArgumentException("a race has 1 to 9 laps");
        }
        if (raceIsOn) {
            throw new IllegalStateException("a race is on");
        }
        if (cup.endedRaces() >= RACE_LIMIT) {
            throw new IllegalStateException("there were 8 races");
        }
        if (kartCount == 0) {
            throw new IllegalStateException("there are no karts");
        }
        if (track.hasDeadEnd()) {
            throw new IllegalStateException("no way leads from some gate");
        }
        race.begin(kartCount, laps);
        passings.clear();
        items.clear();
        raceIsOn = true;
        return cup.endedRaces();
    }

    public boolean isOn() {
        return raceIsOn;
    }

    public int pass(int kart, int gate) throws IndexOutOfBoundsException, IllegalStateException {
        checkKart(kart);
        checkGate(gate);
        checkStillRacing(kart);
        if (items.ticksStunned(kart, tick) > 0) {
            throw new IllegalStateException("the kart is stunned");
        }
        if (!track.joins(race.gateAt(kart), gate)) {
            throw new IllegalStateException("no way leads from the one gate to the other");
        }
        if (passings.isFull()) {
            throw new IllegalStateException("the record of the race is full");
        }
        passings.note(kart, gate);
        return race.move(kart, gate);
    }

    public int idle(int ticks) throws IllegalArgumentException {
        if (ticks < 1 || ticks > IDLE_LIMIT) {
            throw new IllegalArgumentException("ticks are 1 to 100");
        }
        tick += ticks;
        return tick;
    }

    public int gateOf(int kart) throws IndexOutOfBoundsException, IllegalStateException {
        checkKart(kart);
        checkRaceIsOn();
        return race.gateAt(kart);
    }

    public int lapsOf(int kart) throws IndexOutOfBoundsException, IllegalStateException {
        checkKart(kart);
        checkRaceIsOn();
        return race.netLaps(kart);
    }

    public int missing(int kart) throws IndexOutOfBoundsException, IllegalStateException {
        checkKart(kart);
        checkRaceIsOn();
        return race.missingGates(kart);
    }

    public int rank(int kart) throws IndexOutOfBoundsException, IllegalStateException {
        checkKart(kart);
        checkRaceIsOn();
        return race.countAhead(kart);
    }

    public int rankByRecord(int kart) throws IndexOutOfBoundsException, IllegalStateException {
        checkKart(kart);
        checkRaceIsOn();
        retold.begin(kartCount, race.lapGoal());
        for (int i = 0; i < passings.count(); i++) {
            retold.move(passings.kartAt(i), passings.gateAt(i));
        }
        return retold.sortedRank(kart);
    }

    public int catchUp(int kart) throws IndexOutOfBoundsException, IllegalStateException {
        checkKart(kart);
        checkRaceIsOn();
        return Math.min(race.leadOver(kart) / 10, CATCH_UP_LIMIT);
    }

    // ---- items

    public void setDraw(int x) {
        items.setNumber(x);
    }

    public int draw(int kart) throws IndexOutOfBoundsException, IllegalStateException {
        checkKart(kart);
        checkStillRacing(kart);
        if (items.heldBy(kart) != NONE) {
            throw new IllegalStateException("the kart has an item");
        }
        return items.drawFor(kart, race.countAhead(kart));
    }

    public int use(int kart) throws IndexOutOfBoundsException, IllegalStateException {
        checkKart(kart);
        checkStillRacing(kart);
        int item = items.heldBy(kart);
        if (item == NONE) {
            throw new IllegalStateException("the kart has no item");
        }
        items.takeFrom(kart);
        int rank = race.countAhead(kart);
        switch (item) {
            case BOOST:
                items.wake(kart);
                return 0;
            case SHIELD:
                items.shield(kart);
                return 0;
            case SHELL:
                return hitRanks(rank - 1, rank, tick + SHELL_TICKS);
            default:
                return hitRanks(0, rank, tick + BOLT_TICKS);
        }
    }

    public int itemOf(int kart) throws IndexOutOfBoundsException {
        checkKart(kart);
        return raceIsOn ? items.heldBy(kart) : NONE;
    }

    public int stunned(int kart) throws IndexOutOfBoundsException {
        checkKart(kart);
        return raceIsOn ? items.ticksStunned(kart, tick) : 0;
    }

    // ---- the cup

    public int end() throws IllegalStateException {
        checkRaceIsOn();
        int winner = 0;
        for (int kart = 0; kart < kartCount; kart++) {
            int place = race.countAhead(kart);
            cup.noteResult(kart, place, race.isWorthPoints(kart));
            if (place == 0) {
                winner = kart;
            }
        }
        cup.closeRace();
        raceIsOn = false;
        return winner;
    }

    public int races() {
        return cup.endedRaces();
    }

    public int place(int race, int kart) throws IndexOutOfBoundsException {
        if (race < 0 || race >= cup.endedRaces()) {
            throw new IndexOutOfBoundsException("there is no such ended race");
        }
        checkKart(kart);
        return cup.placeIn(race, kart);
    }

    public int setDropped(int races) throws IllegalArgumentException {
        if (races < 0 || races > DROP_LIMIT) {
            throw new IllegalArgumentException("dropped are 0 to 3 races");
        }
        return cup.changeDropped(races);
    }

    public int points(int kart) throws IndexOutOfBoundsException {
        checkKart(kart);
        return cup.pointsOf(kart);
    }

    public int teamPoints(int team) throws IndexOutOfBoundsException {
        checkTeam(team);
        int sum = 0;
        for (int kart = 0; kart < kartCount; kart++) {
            if (teams[kart] == team) {
                sum += cup.pointsOf(kart);
            }
        }
        return sum;
    }

    public int standing(int kart) throws IndexOutOfBoundsException {
        checkKart(kart);
        return cup.countBefore(kart, kartCount);
    }

    public int textLength() {
        return kartCount == 0 ? 0 : 2 * kartCount - 1;
    }

    public char textAt(int index) throws IndexOutOfBoundsException {
        if (index < 0 || index >= 2 * kartCount - 1) {
            throw new IndexOutOfBoundsException("there is no such character");
        }
        if (index % 2 == 1) {
            return '>';
        }
        return (char) ('0' + cup.kartStandingAt(index / 2, kartCount));
    }

    /** Hits the karts with ranks from first up to, but without, end; tells how many had no shield. */
    private int hitRanks(int first, int end, int until) {
        int hits = 0;
        for (int kart = 0; kart < kartCount; kart++) {
            int rank = race.countAhead(kart);
            if (rank >= first && rank < end && !race.isFinished(kart) && items.hit(kart, until)) {
                hits++;
            }
        }
        return hits;
    }

    private void checkGate(int gate) {
        if (gate < 0 || gate >= track.gateCount()) {
            throw new IndexOutOfBoundsException("there is no such gate");
        }
    }

    private void checkKart(int kart) {
        if (kart < 0 || kart >= kartCount) {
            throw new IndexOutOfBoundsException("there is no such kart");
        }
    }

    private void checkTeam(int team) {
        if (team < 0 || team >= TEAM_LIMIT) {
            throw new IndexOutOfBoundsException("there is no such team");
        }
    }

    private void checkNeverStarted() {
        if (raceIsOn || cup.endedRaces() > 0) {
            throw new IllegalStateException("a race was started");
        }
    }

    private void checkRaceIsOn() {
        if (!raceIsOn) {
            throw new IllegalStateException("no race is on");
        }
    }

    private void checkStillRacing(int kart) {
        checkRaceIsOn();
        if (race.isFinished(kart)) {
            throw new IllegalStateException("the kart is finished");
        }
    }

    /** The gates and the ways between them. */
    private static final class Track {
        /** The length from gate a to gate b at a * GATE_LIMIT + b; 0 where there is no way. */
        private final int[] lengths;
        private final int[] rests;
        private int count;
        private int neededGates;

        Track() {
            lengths = new int[GATE_LIMIT * GATE_LIMIT];
            rests = new int[GATE_LIMIT];
            rests[LINE] = NONE;
            count = 1;
            neededGates = 0;
        }

        int gateCount() {
            return count;
        }

        boolean isFull() {
            return count >= GATE_LIMIT;
        }

        /** The caller has seen that the track is not full. */
        int appendGate(boolean needed) {
            int gate = count;
            rests[gate] = NONE;
            if (needed) {
                neededGates |= 1 << gate;
            }
            count++;
            return gate;
        }

        int needed() {
            return neededGates;
        }

        boolean isNeeded(int gate) {
            return (neededGates & (1 << gate)) != 0;
        }

        int wayLength(int from, int to) {
            return lengths[from * GATE_LIMIT + to];
        }

        boolean leads(int from, int to) {
            return wayLength(from, to) > 0;
        }

        boolean joins(int one, int other) {
            return leads(one, other) || leads(other, one);
        }

        void layWay(int from, int to, int length) {
            lengths[from * GATE_LIMIT + to] = length;
            measureRests();
        }

        int restOf(int gate) {
            return rests[gate];
        }

        boolean hasDeadEnd() {
            for (int gate = 0; gate < count; gate++) {
                if (!leadsOn(gate)) {
                    return true;
                }
            }
            return false;
        }

        private boolean leadsOn(int gate) {
            for (int to = 0; to < count; to++) {
                if (leads(gate, to)) {
                    return true;
                }
            }
            return false;
        }

        /** Goes downwards, because a rest is made of the rests of greater gates. */
        private void measureRests() {
            for (int gate = count - 1; gate >= 0; gate--) {
                rests[gate] = leastRest(gate);
            }
        }

        private int leastRest(int gate) {
            int least = leads(gate, LINE) ? wayLength(gate, LINE) : NONE;
            for (int next = gate + 1; next < count; next++) {
                if (leads(gate, next) && rests[next] != NONE) {
                    int sum = wayLength(gate, next) + rests[next];
                    least = least == NONE ? sum : Math.min(least, sum);
                }
            }
            return least;
        }
    }

    /** The passings of a race in the order in which they came. */
    private static final class Passings {
        private final int[] kartRow;
        private final int[] gateRow;
        private int count;

        Passings() {
            kartRow = new int[RECORD_LIMIT];
            gateRow = new int[RECORD_LIMIT];
            count = 0;
        }

        void clear() {
            count = 0;
        }

        boolean isFull() {
            return count >= RECORD_LIMIT;
        }

        /** The caller has seen that the record is not full. */
        void note(int kart, int gate) {
            kartRow[count] = kart;
            gateRow[count] = gate;
            count++;
        }

        int count() {
            return count;
        }

        int kartAt(int index) {
            return kartRow[index];
        }

        int gateAt(int index) {
            return gateRow[index];
        }
    }

    /** Where the karts are in a race, and who is ahead of whom. */
    private static final class Race {
        private final Track track;
        private final int[] gateRow;
        private final int[] lapRow;
        private final int[] debtRow;
        private final int[] passedRow;
        /** The number of a kart's last passing; 0 as long as it has not passed. */
        private final int[] momentRow;
        private final int[] order;
        private final int[] rankRow;
        private int count;
        private int goal;
        private int moment;

        Race(Track ofCup) {
            track = ofCup;
            gateRow = new int[KART_LIMIT];
            lapRow = new int[KART_LIMIT];
            debtRow = new int[KART_LIMIT];
            passedRow = new int[KART_LIMIT];
            momentRow = new int[KART_LIMIT];
            order = new int[KART_LIMIT];
            rankRow = new int[KART_LIMIT];
            count = 0;
            goal = 0;
            moment = 0;
        }

        void begin(int howMany, int laps) {
            count = howMany;
            goal = laps;
            moment = 0;
            for (int kart = 0; kart < KART_LIMIT; kart++) {
                gateRow[kart] = LINE;
                lapRow[kart] = 0;
                debtRow[kart] = 0;
                passedRow[kart] = 0;
                momentRow[kart] = 0;
            }
        }

        int lapGoal() {
            return goal;
        }

        int gateAt(int kart) {
            return gateRow[kart];
        }

        int netLaps(int kart) {
            return lapRow[kart] - debtRow[kart];
        }

        int missingGates(int kart) {
            return track.needed() & ~passedRow[kart];
        }

        boolean isFinished(int kart) {
            return lapRow[kart] >= goal;
        }

        boolean isWorthPoints(int kart) {
            return isFinished(kart) || netLaps(kart) > 0;
        }

        /** The caller has seen that a way joins the kart's gate and the other one. */
        int move(int kart, int to) {
            int from = gateRow[kart];
            moment++;
            momentRow[kart] = moment;
            gateRow[kart] = to;
            if (!track.leads(from, to)) {
                return goBack(kart, from);
            }
            return to == LINE ? crossLine(kart) : reachGate(kart, to);
        }

        private int goBack(int kart, int from) {
            if (from == LINE) {
                debtRow[kart]++;
            } else {
                passedRow[kart] &= ~(1 << from);
            }
            return WRONG;
        }

        private int reachGate(int kart, int gate) {
            if (track.isNeeded(gate) && debtRow[kart] == 0) {
                passedRow[kart] |= 1 << gate;
            }
            return RIGHT;
        }

        private int crossLine(int kart) {
            boolean hasAll = missingGates(kart) == 0;
            passedRow[kart] = 0;
            if (debtRow[kart] > 0) {
                debtRow[kart]--;
                return PAID;
            }
            if (!hasAll) {
                return MISSED;
            }
            lapRow[kart]++;
            return isFinished(kart) ? FINISHED : LAP;
        }

        int countAhead(int kart) {
            int ahead = 0;
            for (int other = 0; other < count; other++) {
                if (isAhead(other, kart)) {
                    ahead++;
                }
            }
            return ahead;
        }

        private boolean isAhead(int one, int other) {
            if (isFinished(one) || isFinished(other)) {
                return isFinished(one) && (!isFinished(other) || momentRow[one] < momentRow[other]);
            }
            if (netLaps(one) != netLaps(other)) {
                return netLaps(one) > netLaps(other);
            }
            int restOfOne = track.restOf(gateRow[one]);
            int restOfOther = track.restOf(gateRow[other]);
            if (restOfOne != restOfOther) {
                return restOfOne < restOfOther;
            }
            if (momentRow[one] != momentRow[other]) {
                return momentRow[one] < momentRow[other];
            }
            return one < other;
        }

        int sortedRank(int kart) {
            for (int next = 0; next < count; next++) {
                insertInOrder(next);
            }
            for (int rank = 0; rank < count; rank++) {
                rankRow[order[rank]] = rank;
            }
            return rankRow[kart];
        }

        /** The karts below this one are in order already. */
        private void insertInOrder(int kart) {
            int at = kart;
            while (at > 0 && isAhead(kart, order[at - 1])) {
                order[at] = order[at - 1];
                at--;
            }
            order[at] = kart;
        }

        int leadOver(int kart) {
            int lead = 0;
            for (int other = 0; other < count; other++) {
                if (countAhead(other) == 0) {
                    lead = wayDone(other) - wayDone(kart);
                }
            }
            return Math.max(lead, 0);
        }

        private int wayDone(int kart) {
            int wholeLap = track.restOf(LINE);
            int done = netLaps(kart) * wholeLap;
            if (gateRow[kart] != LINE) {
                done += wholeLap - track.restOf(gateRow[kart]);
            }
            return done;
        }
    }

    /** The items of the karts, and what the items have done to them. */
    private static final class Items {
        private static final int[] FOR_FIRST = {SHIELD, SHIELD, SHELL, BOOST};
        private static final int[] FOR_MIDDLE = {SHELL, SHIELD, BOOST, SHELL};
        private static final int[] FOR_OTHERS = {BOLT, BOOST, SHELL, BOLT};

        private final int[] itemRow;
        private final boolean[] shieldRow;
        /** The first tick at which a kart is not stunned any more. */
        private final int[] awakeRow;
        private int number;

        Items() {
            itemRow = new int[KART_LIMIT];
            shieldRow = new boolean[KART_LIMIT];
            awakeRow = new int[KART_LIMIT];
            number = 0;
            clear();
        }

        void clear() {
            for (int kart = 0; kart < KART_LIMIT; kart++) {
                itemRow[kart] = NONE;
                shieldRow[kart] = false;
                awakeRow[kart] = 0;
            }
        }

        void setNumber(int x) {
            number = x;
        }

        int heldBy(int kart) {
            return itemRow[kart];
        }

        void takeFrom(int kart) {
            itemRow[kart] = NONE;
        }

        int drawFor(int kart, int rank) {
            number = number * 1103515245 + 12345;
            int place = (number >>> 16) & 3;
            itemRow[kart] = itemAt(rank, place);
            return itemRow[kart];
        }

        private static int itemAt(int rank, int place) {
            if (rank == 0) {
                return FOR_FIRST[place];
            }
            return rank <= 2 ? FOR_MIDDLE[place] : FOR_OTHERS[place];
        }

        int ticksStunned(int kart, int now) {
            return Math.max(awakeRow[kart] - now, 0);
        }

        void wake(int kart) {
            awakeRow[kart] = 0;
        }

        void shield(int kart) {
            shieldRow[kart] = true;
        }

        /** Tells whether the kart was not shielded. */
        boolean hit(int kart, int until) {
            if (shieldRow[kart]) {
                shieldRow[kart] = false;
                return false;
            }
            awakeRow[kart] = Math.max(awakeRow[kart], until);
            return true;
        }
    }

    /** The ended races: the result of kart k in race r stands at r * KART_LIMIT + k. */
    private static final class Cup {
        private static final int[] POINTS_BY_PLACE = {10, 8, 6, 5, 4, 3};

        private final int[] placeRow;
        private final int[] pointRow;
        private int ended;
        private int dropped;

        Cup() {
            placeRow = new int[RACE_LIMIT * KART_LIMIT];
            pointRow = new int[RACE_LIMIT * KART_LIMIT];
            ended = 0;
            dropped = 0;
        }

        int endedRaces() {
            return ended;
        }

        void noteResult(int kart, int place, boolean worthPoints) {
            placeRow[ended * KART_LIMIT + kart] = place;
            pointRow[ended * KART_LIMIT + kart] = worthPoints ? POINTS_BY_PLACE[place] : 0;
        }

        void closeRace() {
            ended++;
        }

        int placeIn(int raceNumber, int kart) {
            return placeRow[raceNumber * KART_LIMIT + kart];
        }

        int changeDropped(int howMany) {
            int before = dropped;
            dropped = howMany;
            return before;
        }

        int pointsOf(int kart) {
            int sum = 0;
            for (int nr = 0; nr < ended; nr++) {
                if (countWorse(nr, kart) >= dropped) {
                    sum += pointRow[nr * KART_LIMIT + kart];
                }
            }
            return sum;
        }

        /** Of races with as many points the earlier one counts as worse, so that no two are alike. */
        private int countWorse(int nr, int kart) {
            int own = pointRow[nr * KART_LIMIT + kart];
            int worse = 0;
            for (int other = 0; other < ended; other++) {
                int points = pointRow[other * KART_LIMIT + kart];
                if (points < own || (points == own && other < nr)) {
                    worse++;
                }
            }
            return worse;
        }

        int countBefore(int kart, int kartCount) {
            int before = 0;
            for (int other = 0; other < kartCount; other++) {
                if (standsBefore(other, kart)) {
                    before++;
                }
            }
            return before;
        }

        int kartStandingAt(int place, int kartCount) {
            int found = 0;
            for (int kart = 0; kart < kartCount; kart++) {
                if (countBefore(kart, kartCount) == place) {
                    found = kart;
                }
            }
            return found;
        }

        private boolean standsBefore(int one, int other) {
            int points = pointsOf(one);
            int otherPoints = pointsOf(other);
            if (points != otherPoints) {
                return points > otherPoints;
            }
            for (int place = 0; place < KART_LIMIT; place++) {
                int times = timesAt(place, one);
                int otherTimes = timesAt(place, other);
                if (times != otherTimes) {
                    return times > otherTimes;
                }
            }
            return one < other;
        }

        private int timesAt(int place, int kart) {
            int times = 0;
            for (int nr = 0; nr < ended; nr++) {
                if (placeRow[nr * KART_LIMIT + kart] == place) {
                    times++;
                }
            }
            return times;
        }
    }
}
