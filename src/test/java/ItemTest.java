/** Promises 18 to 22: items. */
final class ItemTest {
    private static final int BOOST = Leaguewheel.BOOST;
    private static final int SHELL = Leaguewheel.SHELL;
    private static final int SHIELD = Leaguewheel.SHIELD;
    private static final int BOLT = Leaguewheel.BOLT;

    private static final Check check = new Check("ItemTest");

    public static void main(String[] args) {
        drawFromZero();
        drawAllPlacesByRank();
        drawGoesOn();
        drawRefuses();
        useRefuses();
        useShield();
        useShell();
        useShellOfTheFirst();
        useBolt();
        useBoost();
        stunsAddUp();
        finishedAreNotHit();
        stunEnds();
        itemsBetweenRaces();
        check.finish();
    }

    private static Leaguewheel started(int karts) {
        Leaguewheel x = Cups.ring(5, karts);
        x.start(1);
        return x;
    }

    /** From 0 the numbers are 12345, -740551042, -1492899873, -698016724, 229283573, -1038148470. */
    private static void drawFromZero() {
        Leaguewheel x = started(4);
        check.due("19: 12345, place 0 of the first", x.draw(0), SHIELD);
        int[] items = {BOLT, BOLT, BOOST, SHELL, BOLT};
        for (int item : items) {
            check.due("19: the numbers from 0 on", x.draw(3), item);
            x.use(3);
        }
        Leaguewheel y = started(4);
        y.setDraw(-698016724);
        check.due("18: going on from the fourth", y.draw(3), SHELL);
        y.setDraw(Integer.MAX_VALUE);
        check.due("18: from the greatest int", y.draw(2), SHIELD);
        y.setDraw(Integer.MIN_VALUE);
        check.due("18: from the least int", y.draw(1), SHELL);
    }

    private static void drawAllPlacesByRank() {
        for (int place = 0; place < 4; place++) {
            Leaguewheel x = started(6);
            for (int kart = 0; kart < 6; kart++) {
                x.setDraw(Cups.numberFor(place));
                check.due("19: rank " + kart + ", place " + place, x.draw(kart), Cups.itemsOfRank(kart)[place]);
            }
        }
    }

    /** Great and negative numbers, and the rank at the moment of the draw. */
    private static void drawGoesOn() {
        int[] numbers = {0, 1, -1, Integer.MAX_VALUE, Integer.MIN_VALUE, 123456789, -987654321};
        int[] middle = {SHELL, SHIELD, BOOST, SHELL};
        for (int number : numbers) {
            Leaguewheel x = started(3);
            x.pass(2, 1);
            x.setDraw(number);
            int next = number;
            for (int i = 0; i < 20; i++) {
                next = next * 1103515245 + 12345;
                check.due("19: draw " + i + " from " + number, x.draw(0), middle[(next >>> 16) & 3]);
                x.use(0);
            }
        }
    }

    private static void drawRefuses() {
        Leaguewheel x = Cups.ring(5, 2);
        check.diesOfState("19: no race is on", () -> x.draw(0));
        check.diesOfIndex("19: kart before that", () -> x.draw(2));
        x.start(1);
        check.diesOfIndex("19: kart 2", () -> x.draw(2));
        check.diesOfIndex("19: kart -1", () -> x.draw(-1));
        x.setDraw(Cups.numberFor(3));
        int item = x.draw(0);
        check.due("19: the item", item, BOOST);
        x.setDraw(Cups.numberFor(2));
        check.diesOfState("19: it has an item", () -> x.draw(0));
        check.due("21: it keeps it", x.itemOf(0), item);
        check.due("19: a refused draw draws nothing", x.draw(1), BOOST);
        Cups.go(x, 0, 1, 0);
        check.diesOfState("19: a finished kart with an item", () -> x.draw(0));
        Leaguewheel y = started(1);
        Cups.go(y, 0, 1, 0);
        check.diesOfState("19: a finished kart", () -> y.draw(0));
        y.end();
        check.diesOfState("19: after the race", () -> y.draw(0));
    }

    private static void useRefuses() {
        Leaguewheel x = Cups.ring(5, 2);
        check.diesOfState("20: no race is on", () -> x.use(0));
        check.diesOfIndex("20: kart before that", () -> x.use(2));
        x.start(1);
        check.diesOfIndex("20: kart 2", () -> x.use(2));
        check.diesOfIndex("20: kart -1", () -> x.use(-1));
        check.diesOfState("20: no item", () -> x.use(0));
        Cups.give(x, 0, SHIELD);
        check.due("20: an item", x.use(0), 0);
        check.due("21: none any more", x.itemOf(0), Leaguewheel.NONE);
        check.diesOfState("20: once only", () -> x.use(0));
        Cups.give(x, 0, SHIELD);
        Cups.go(x, 0, 1, 0);
        check.diesOfState("20: a finished kart", () -> x.use(0));
        check.due("21: which keeps its item", x.itemOf(0), SHIELD);
    }

    private static void useShield() {
        Leaguewheel x = started(3);
        check.due("20: shield", Cups.use(x, 1, SHIELD), 0);
        check.due("20: shield upon shield", Cups.use(x, 1, SHIELD), 0);
        check.due("20: a shell on the shielded one", Cups.use(x, 2, SHELL), 0);
        check.due("22: it is not stunned", x.stunned(1), 0);
        check.due("20: a second one hits", Cups.use(x, 2, SHELL), 1);
        check.due("22: for 5 ticks", x.stunned(1), 5);
    }

    private static void useShell() {
        Leaguewheel x = started(4);
        x.idle(10);
        check.due("20: shell of the last one", Cups.use(x, 3, SHELL), 1);
        check.due("22: the one ahead alone", Cups.stuns(x), "0050");
        Cups.go(x, 3, 1);
        check.due("20: shell of the new second", Cups.use(x, 0, SHELL), 1);
        check.due("22: hits the new first", Cups.stuns(x), "0055");
    }

    private static void useShellOfTheFirst() {
        Leaguewheel x = started(3);
        check.due("20: shell of the first one", Cups.use(x, 0, SHELL), 0);
        check.due("22: hits none", Cups.stuns(x), "000");
    }

    private static void useBolt() {
        Leaguewheel x = started(6);
        Cups.use(x, 1, SHIELD);
        check.due("20: bolt of rank 4, one is shielded", Cups.use(x, 4, BOLT), 3);
        check.due("22: all ahead but the shielded one", Cups.stuns(x), "202200");
        check.due("20: bolt of rank 3", Cups.use(x, 3, BOLT), 3);
        check.due("22: the shield is gone", Cups.stuns(x), "222200");
    }

    private static void useBoost() {
        Leaguewheel x = started(3);
        Cups.give(x, 1, BOOST);
        Cups.use(x, 2, SHELL);
        check.due("22: stunned", x.stunned(1), 5);
        check.diesOfState("10: a stunned kart", () -> x.pass(1, 1));
        check.due("20: a stunned kart can use it", x.use(1), 0);
        check.due("22: not any more", x.stunned(1), 0);
        check.due("10: so it passes", x.pass(1, 1), Leaguewheel.RIGHT);
        check.due("20: boost without a stun", Cups.use(x, 1, BOOST), 0);
        check.due("22: nothing", Cups.stuns(x), "000");
    }

    /** A later end stands; a hit does not lengthen what lasts longer anyway. */
    private static void stunsAddUp() {
        Leaguewheel x = started(6);
        Cups.use(x, 3, SHELL);
        x.idle(1);
        Cups.use(x, 5, BOLT);
        check.due("22: 4 ticks are left, 2 are less", Cups.stuns(x), "224220");
        x.idle(1);
        check.due("22: a tick on", Cups.stuns(x), "113110");
        Cups.use(x, 3, SHELL);
        check.due("22: 5 are more than 3", Cups.stuns(x), "115110");
        check.due("20: a stunned one counts as hit", Cups.use(x, 3, BOLT), 3);
        check.due("22: 2 are more than 1", Cups.stuns(x), "225110");
    }

    private static void finishedAreNotHit() {
        Leaguewheel x = started(6);
        Cups.go(x, 5, 1, 0);
        check.due("20: shell on a finished one", Cups.use(x, 0, SHELL), 0);
        check.due("20: bolt past a finished one", Cups.use(x, 4, BOLT), 4);
        check.due("22: it is not stunned", Cups.stuns(x), "222200");
        check.due("20: bolt of rank 4", Cups.use(x, 3, BOLT), 3);
    }

    private static void stunEnds() {
        Leaguewheel x = started(3);
        Cups.use(x, 2, SHELL);
        x.idle(4);
        check.due("22: a tick is left", x.stunned(1), 1);
        check.diesOfState("10: stunned still", () -> x.pass(1, 1));
        x.idle(1);
        check.due("22: that tick is not included", x.stunned(1), 0);
        check.due("10: free", x.pass(1, 1), Leaguewheel.RIGHT);
        x.idle(50);
        check.due("22: not below 0", x.stunned(1), 0);
        Cups.use(x, 2, SHELL);
        check.diesOfIndex("10: gate before stunned", () -> x.pass(0, 2));
    }

    private static void itemsBetweenRaces() {
        Leaguewheel x = Cups.ring(5, 3);
        check.due("21: before a race", x.itemOf(0), Leaguewheel.NONE);
        check.due("22: before a race", x.stunned(0), 0);
        x.start(1);
        check.due("21: at first", x.itemOf(0), Leaguewheel.NONE);
        Cups.use(x, 2, SHELL);
        Cups.use(x, 0, SHIELD);
        Cups.give(x, 2, SHIELD);
        int next = x.itemOf(2);
        x.setDraw(Cups.numberFor(3));
        x.end();
        check.due("21: after the race", x.itemOf(2), Leaguewheel.NONE);
        check.due("22: after the race", x.stunned(1), 0);
        for (int kart : new int[] {-1, 3, Integer.MAX_VALUE}) {
            check.diesOfIndex("21: no such kart", () -> x.itemOf(kart));
            check.diesOfIndex("22: no such kart", () -> x.stunned(kart));
        }
        x.start(1);
        check.due("21: the item is gone", x.itemOf(2) != next, true);
        check.due("22: the stun is gone", x.stunned(1), 0);
        check.due("18: the number goes on", x.draw(0), BOOST);
        check.due("20: the shield is gone", Cups.use(x, 1, SHELL), 1);
        check.diesOfIndex("21: no such kart in a race", () -> x.itemOf(3));
        check.diesOfIndex("22: no such kart in a race", () -> x.stunned(-1));
    }
}
