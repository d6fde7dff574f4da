/**
 * Runs of 512 calls, each answered by the class and by the model. The calls are chosen by a generator
 * of fixed seeds, so that each run of this test is the same.
 */
final class ModelTest {
    static final int RUNS = 4000;
    static final int CALLS = 512;
    private static final int[] ODD = {-1, -2, 12, 13, 100, 101, Integer.MAX_VALUE, Integer.MIN_VALUE};

    private static final Check check = new Check("ModelTest");

    private final Leaguewheel x = new Leaguewheel();
    private final Model m = new Model();
    private final String run;
    private long seed;
    private int calls;

    private ModelTest(int run) {
        this.run = "run " + run;
        this.seed = run * 7919L + 17;
    }

    public static void main(String[] args) {
        for (int run = 0; run < RUNS; run++) {
            new ModelTest(run).play(run % 4);
        }
        check.finish();
    }

    private void play(int kind) {
        build(kind);
        while (calls < CALLS) {
            int dice = below(100);
            if (dice < 45) {
                passSomewhere();
            } else if (dice < 60) {
                item();
            } else if (dice < 64) {
                raceFrame(kind);
            } else if (dice < 67) {
                change();
            } else {
                ask();
            }
        }
    }

    private int below(int end) {
        seed = seed * 6364136223846793005L + 1442695040888963407L;
        return (int) ((seed >>> 33) % end);
    }

    private void both(String what, Check.Call own, Check.Call model) {
        calls++;
        check.due(run + ", call " + calls + ", " + what, Check.answerOf(own), Check.answerOf(model));
    }

    private int some(int count) {
        return below(40) == 0 ? ODD[below(ODD.length)] : below(Math.max(1, count + (below(30) == 0 ? 1 : 0)));
    }

    private int kart() {
        return some(m.karts.size());
    }

    private int gate() {
        return some(m.needed.size());
    }

    private void build(int kind) {
        int gates = kind == 0 ? below(12) : 1 + below(5);
        for (int i = 0; i < gates; i++) {
            addGate();
        }
        int karts = kind == 1 ? 2 : 1 + below(6);
        for (int i = 0; i < karts; i++) {
            addKart();
        }
        for (int gate = 0; gate <= gates; gate++) {
            int on = gate + 1 + below(Math.max(1, gates - gate));
            addWay(gate, on > gates ? 0 : on, 1 + below(100));
        }
        for (int i = below(2 * gates + 2); i > 0; i--) {
            addWay(gate(), gate(), kind == 2 ? 1 + below(3) : below(103));
        }
        for (int gate = 0; gate <= gates; gate++) {
            askRest(gate);
        }
    }

    private void addGate() {
        boolean needed = below(3) > 0;
        both("addGate", () -> x.addGate(needed), () -> m.addGate(needed));
    }

    private void addKart() {
        int team = some(4);
        both("addKart " + team, () -> x.addKart(team), () -> m.addKart(team));
    }

    private void addWay(int from, int to, int length) {
        both("addWay " + from + " " + to + " " + length, () -> x.addWay(from, to, length),
                () -> m.addWay(from, to, length));
    }

    private void askRest(int gate) {
        both("rest " + gate, () -> x.rest(gate), () -> m.rest(gate));
    }

    /** Mostly along a way or back one, now and then anywhere. */
    private void passSomewhere() {
        int kart = kart();
        int gate = gate();
        if (kart >= 0 && kart < m.karts.size() && below(20) > 0) {
            int from = m.karts.get(kart).gate;
            boolean on = below(5) > 0;
            for (int i = 0; i < 40 && !(on ? m.way(from, gate) : m.way(gate, from)); i++) {
                gate = below(m.needed.size());
            }
        }
        int to = gate;
        both("pass " + kart + " " + to, () -> x.pass(kart, to), () -> m.pass(kart, to));
    }

    private void item() {
        int kart = kart();
        int dice = below(10);
        if (dice < 4) {
            both("draw " + kart, () -> x.draw(kart), () -> m.draw(kart));
        } else if (dice < 8) {
            both("use " + kart, () -> x.use(kart), () -> m.use(kart));
        } else if (dice < 9) {
            int number = below(2) == 0 ? below(1000) : (int) (seed >>> 20);
            calls++;
            x.setDraw(number);
            m.setDraw(number);
        } else {
            int ticks = below(20) == 0 ? below(103) - 1 : 1 + below(3);
            both("idle " + ticks, () -> x.idle(ticks), () -> m.idle(ticks));
        }
    }

    private void raceFrame(int kind) {
        if (m.on && below(kind == 3 ? 2 : 6) == 0) {
            both("end", () -> x.end(), () -> m.end());
        } else {
            int laps = below(8) == 0 ? below(14) - 2 : 1 + below(3);
            both("start " + laps, () -> x.start(laps), () -> m.start(laps));
        }
    }

    private void change() {
        int dice = below(6);
        if (dice == 0) {
            addGate();
        } else if (dice == 1) {
            addKart();
        } else if (dice == 2) {
            addWay(gate(), gate(), below(103));
        } else {
            int races = below(6) - 1;
            both("setDropped " + races, () -> x.setDropped(races), () -> m.setDropped(races));
        }
    }

    private void ask() {
        if (below(2) == 0) {
            askOfRace(kart());
        } else {
            askOfCup(kart());
        }
    }

    private void askOfRace(int kart) {
        switch (below(9)) {
            case 0:
                both("gateOf " + kart, () -> x.gateOf(kart), () -> m.gateOf(kart));
                break;
            case 1:
                both("lapsOf " + kart, () -> x.lapsOf(kart), () -> m.lapsOf(kart));
                break;
            case 2:
                both("missing " + kart, () -> x.missing(kart), () -> m.missing(kart));
                break;
            case 3:
                both("rank " + kart, () -> x.rank(kart), () -> m.rank(kart));
                break;
            case 4:
                both("rankByRecord " + kart, () -> x.rankByRecord(kart), () -> m.rank(kart));
                break;
            case 5:
                both("catchUp " + kart, () -> x.catchUp(kart), () -> m.catchUp(kart));
                break;
            case 6:
                both("itemOf " + kart, () -> x.itemOf(kart), () -> m.itemOf(kart));
                break;
            case 7:
                both("stunned " + kart, () -> x.stunned(kart), () -> m.stunned(kart));
                break;
            default:
                both("isOn", () -> x.isOn(), () -> m.on);
        }
    }

    private void askOfCup(int kart) {
        switch (below(9)) {
            case 0:
                int race = some(m.ended);
                both("place " + race + " " + kart, () -> x.place(race, kart), () -> m.place(race, kart));
                break;
            case 1:
                both("points " + kart, () -> x.points(kart), () -> m.points(kart));
                break;
            case 2:
                int team = some(4);
                both("teamPoints " + team, () -> x.teamPoints(team), () -> m.teamPoints(team));
                break;
            case 3:
                both("standing " + kart, () -> x.standing(kart), () -> m.standing(kart));
                break;
            case 4:
                both("textLength", () -> x.textLength(), () -> m.text().length());
                break;
            case 5:
                int at = some(2 * m.karts.size());
                both("textAt " + at, () -> x.textAt(at), () -> m.textAt(at));
                break;
            case 6:
                both("races", () -> x.races(), () -> m.ended);
                break;
            case 7:
                if (below(2) == 0) {
                    both("karts", () -> x.karts(), () -> m.karts.size());
                } else {
                    both("gates", () -> x.gates(), () -> m.needed.size());
                }
                break;
            default:
                askRest(gate());
        }
    }
}
