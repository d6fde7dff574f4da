import java.lang.reflect.InvocationTargetException;
import java.lang.reflect.Method;
import java.lang.reflect.Modifier;
import java.util.Arrays;
import java.util.List;
import java.util.function.IntFunction;
import java.util.function.Supplier;

/**
 * Every method with every choice of edge numbers in many situations. Where it throws, the object must
 * go on as another one of the same situation does that was not called.
 */
final class Refusals {
    private static final int[] NUMBERS = {
        Integer.MIN_VALUE, -1, 0, 1, 2, 3, 4, 6, 9, 12, 100, 101, Integer.MAX_VALUE};

    private static final int SHELL = Leaguewheel.SHELL;
    private static final int SHIELD = Leaguewheel.SHIELD;
    private static final int BOLT = Leaguewheel.BOLT;

    private final StringBuilder changes = new StringBuilder();
    private int refused;

    /** The refused calls that changed something, or threw what is not named; empty if there are none. */
    String changes() {
        List<Supplier<Leaguewheel>> situations = List.of(Leaguewheel::new, Refusals::halfBuilt, Refusals::built,
                Refusals::fullTrack, Refusals::noKarts, Refusals::started, Refusals::inTheMidst,
                Refusals::someFinished, Refusals::between, Refusals::inTheEighth, Refusals::afterEight);
        for (int nr = 0; nr < situations.size(); nr++) {
            Story untouched = new Story(situations.get(nr).get());
            String want = untouched.tell();
            for (Method method : Leaguewheel.class.getDeclaredMethods()) {
                if (Modifier.isPublic(method.getModifiers())) {
                    callAll(nr, situations.get(nr), method, want);
                }
            }
        }
        return changes.toString();
    }

    int count() {
        return refused;
    }

    private void callAll(int nr, Supplier<Leaguewheel> situation, Method method, String want) {
        int parameters = method.getParameterCount();
        int choices = (int) Math.pow(NUMBERS.length, parameters);
        for (int choice = 0; choice < choices; choice++) {
            Object[] arguments = new Object[parameters];
            int rest = choice;
            for (int i = 0; i < parameters; i++) {
                int number = NUMBERS[rest % NUMBERS.length];
                arguments[i] = method.getParameterTypes()[i] == boolean.class ? (Object) (number > 0) : number;
                rest /= NUMBERS.length;
            }
            Leaguewheel x = situation.get();
            Class<?> thrown = thrown(x, method, arguments);
            if (thrown != null) {
                refused++;
                String call = nr + ": " + method.getName() + Arrays.toString(arguments) + "; ";
                if (!List.of(method.getExceptionTypes()).contains(thrown) || !new Story(x).tell().equals(want)) {
                    changes.append(call);
                }
            }
        }
    }

    private static Class<?> thrown(Leaguewheel x, Method method, Object[] arguments) {
        try {
            method.invoke(x, arguments);
            return null;
        } catch (InvocationTargetException e) {
            return e.getCause().getClass();
        } catch (IllegalAccessException e) {
            throw new AssertionError(e);
        }
    }

    private static Leaguewheel halfBuilt() {
        Leaguewheel x = new Leaguewheel();
        x.addGate(true);
        x.addGate(false);
        x.addWay(0, 1, 3);
        x.addWay(1, 0, 4);
        x.addKart(2);
        x.setDropped(2);
        x.setDraw(99);
        x.idle(7);
        return x;
    }

    private static Leaguewheel built() {
        return Cups.fork(0, 1, 2, 3, 0, 1);
    }

    private static Leaguewheel fullTrack() {
        return Cups.greatCircle(6);
    }

    private static Leaguewheel noKarts() {
        return Cups.fork();
    }

    private static Leaguewheel started() {
        Leaguewheel x = Cups.fork(3, 3);
        x.start(9);
        return x;
    }

    /** With laps, debts, passed gates, items, a shield and stuns. */
    private static Leaguewheel inTheMidst() {
        Leaguewheel x = Cups.fork(0, 1, 2, 3, 0);
        x.idle(3);
        x.start(3);
        Cups.go(x, 0, 1, 3, 0, 1);
        Cups.go(x, 1, 1, 2, 3);
        Cups.go(x, 2, 3);
        Cups.use(x, 3, SHELL);
        Cups.use(x, 1, SHIELD);
        Cups.use(x, 4, BOLT);
        Cups.use(x, 1, SHIELD);
        Cups.give(x, 0, SHIELD);
        Cups.give(x, 2, BOLT);
        x.idle(1);
        return x;
    }

    private static Leaguewheel someFinished() {
        Leaguewheel x = Cups.ring(5, 4);
        x.start(1);
        Cups.give(x, 2, SHELL);
        Cups.lap(x, 2);
        Cups.lap(x, 0);
        Cups.use(x, 3, SHELL);
        return x;
    }

    private static Leaguewheel between() {
        Leaguewheel x = someFinished();
        x.setDropped(1);
        x.end();
        x.idle(1);
        return x;
    }

    private static Leaguewheel inTheEighth() {
        Leaguewheel x = Cups.ring(5, 3);
        for (int race = 0; race < 7; race++) {
            Cups.raceOnRing(x, race % 3, (race + 1) % 3);
        }
        x.start(2);
        Cups.go(x, 2, 1);
        return x;
    }

    private static Leaguewheel afterEight() {
        Leaguewheel x = inTheEighth();
        x.end();
        x.setDropped(3);
        return x;
    }

    /**
     * How an object answers and goes on; what it holds comes to light by that. Some 460 calls at most, so
     * that none comes behind the 512th.
     */
    private static final class Story {
        private final Leaguewheel x;
        private final int gates;
        private final int karts;
        private final StringBuilder told = new StringBuilder();

        Story(Leaguewheel x) {
            this.x = x;
            gates = x.gates();
            karts = x.karts();
        }

        String tell() {
            askAll();
            useItems();
            passEverywhere();
            tell(() -> x.end());
            tell(() -> x.setDropped(0));
            tell(() -> x.idle(1));
            build();
            tell(() -> x.start(1));
            useItems();
            tell(() -> x.end());
            askAll();
            return told.toString();
        }

        private void tell(Check.Call call) {
            told.append(Check.answerOf(call)).append(' ');
        }

        private void askAll() {
            tell(() -> x.gates());
            tell(() -> x.karts());
            tell(() -> x.isOn());
            tell(() -> x.textLength());
            each(gates, gate -> x.rest(gate));
            each(4, team -> x.teamPoints(team));
            each(2 * karts - 1, at -> x.textAt(at));
            each(karts, kart -> x.gateOf(kart));
            each(karts, kart -> x.lapsOf(kart));
            each(karts, kart -> x.missing(kart));
            each(karts, kart -> x.rank(kart));
            each(karts, kart -> x.rankByRecord(kart));
            each(karts, kart -> x.catchUp(kart));
            each(karts, kart -> x.itemOf(kart));
            each(karts, kart -> x.stunned(kart));
            each(karts, kart -> x.points(kart));
            each(karts, kart -> x.standing(kart));
            int races = x.races();
            for (int kart = 0; kart < karts; kart++) {
                int of = kart;
                each(races, race -> x.place(race, of));
            }
        }

        private void each(int count, IntFunction<Object> answer) {
            for (int number = 0; number < count; number++) {
                int of = number;
                tell(() -> answer.apply(of));
            }
        }

        /** The last ones first, whose items hit most; so shields come to light, too. */
        private void useItems() {
            for (int kart = karts - 1; kart >= 0; kart--) {
                int user = kart;
                tell(() -> x.use(user));
                tell(() -> x.draw(user));
                tell(() -> x.use(user));
                each(karts, other -> x.stunned(other));
            }
        }

        private void passEverywhere() {
            tell(() -> x.idle(6));
            for (int kart = 0; kart < karts; kart++) {
                for (int gate = gates - 1; gate >= 0; gate--) {
                    int who = kart;
                    int to = gate;
                    tell(() -> x.pass(who, to));
                }
            }
            each(karts, kart -> x.rank(kart));
            each(karts, kart -> x.rankByRecord(kart));
        }

        private void build() {
            for (int from = 0; from < gates; from++) {
                int of = from;
                for (int to = from + 1; to < gates; to++) {
                    int next = to;
                    tell(() -> x.addWay(of, next, 1));
                }
                tell(() -> x.addWay(of, 0, 1));
            }
            tell(() -> x.addGate(true));
            tell(() -> x.addWay(gates, 0, 1));
            tell(() -> x.addKart(1));
        }
    }
}
