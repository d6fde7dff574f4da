import java.math.BigInteger;
import java.util.Set;

/** The edges of items: their terms, and the promises 18 to 22. */
final class ItemEdges extends Edges {
    ItemEdges(Check check, Set<String> tested) {
        super(check, tested);
    }

    @Override
    void test() {
        part("Items");
        termsOfDrawing();
        termsOfPlaces();
        termsOfStuns();
        termsOfHits();
        setDraw();
        draw();
        use();
        itemOf();
        stunned();
    }

    private static Leaguewheel started(int karts) {
        Leaguewheel x = Cups.ring(5, karts);
        x.start(9);
        return x;
    }

    /** What follows a number, reckoned without any wrap-around and brought to an int at the end. */
    private static int next(int x) {
        return BigInteger.valueOf(x).multiply(BigInteger.valueOf(1103515245)).add(BigInteger.valueOf(12345)).intValue();
    }

    /** The two bits above the lower sixteen ones. */
    private static int place(int x) {
        int place = 0;
        for (int bit = 16; bit <= 17; bit++) {
            place += BigInteger.valueOf(x).testBit(bit) ? 1 << (bit - 16) : 0;
        }
        return place;
    }

    private void termsOfDrawing() {
        says("A kart can have one item.", () -> {
            Leaguewheel x = started(2);
            x.draw(0);
            state("a second one", () -> x.draw(0));
            x.use(0);
            due("another one, when the first is used", x.draw(0) != NONE, true);
            due("each kart has its own", x.itemOf(1), NONE);
        });
        says("It is drawn so: x (an int, 0 at first) becomes x * 1103515245 + 12345, reckoned as ints are;", () -> {
            Leaguewheel first = started(4);
            int x = 0;
            for (int draw = 0; draw < 100; draw++) {
                x = next(x);
                due("draw " + draw, first.draw(3), Cups.itemsOfRank(3)[place(x)]);
                first.use(3);
            }
            int[] numbers = {1, 2, 3, -1, -2, -3, 1 << 30, 1 << 31, Integer.MAX_VALUE, Integer.MAX_VALUE - 1};
            for (int number : numbers) {
                Leaguewheel wrapping = started(4);
                wrapping.setDraw(number);
                int once = next(number);
                due("from " + number, wrapping.draw(3), Cups.itemsOfRank(3)[place(once)]);
                due("and on", wrapping.draw(2), Cups.itemsOfRank(2)[place(next(once))]);
            }
        });
        says("d is x >>> 16 modulo 4;", () -> {
            for (int number = -40; number <= 40; number++) {
                Leaguewheel x = started(4);
                x.setDraw(number * 53_000_011);
                int place = place(next(number * 53_000_011));
                due("from " + number * 53_000_011, x.draw(2), Cups.itemsOfRank(2)[place]);
            }
        });
    }

    private void itemsOf(int rank, int... items) {
        for (int place = 0; place < 4; place++) {
            Leaguewheel x = started(6);
            x.setDraw(Cups.numberFor(place));
            due("rank " + rank + ", place " + place, x.draw(rank), items[place]);
        }
    }

    private void termsOfPlaces() {
        says("the item is the one at the place d, from 0, of those of its rank: rank 0: SHIELD, SHIELD, SHELL,"
                + " BOOST;", () -> itemsOf(0, SHIELD, SHIELD, SHELL, BOOST));
        says("rank 1 or 2: SHELL, SHIELD, BOOST, SHELL;", () -> {
            itemsOf(1, SHELL, SHIELD, BOOST, SHELL);
            itemsOf(2, SHELL, SHIELD, BOOST, SHELL);
        });
        says("other ranks: BOLT, BOOST, SHELL, BOLT.", () -> {
            itemsOf(3, BOLT, BOOST, SHELL, BOLT);
            itemsOf(4, BOLT, BOOST, SHELL, BOLT);
            itemsOf(5, BOLT, BOOST, SHELL, BOLT);
        });
    }

    private void termsOfStuns() {
        says("A kart is stunned until some tick, that tick not included.", () -> {
            Leaguewheel x = started(2);
            x.idle(100);
            Cups.use(x, 1, SHELL);
            for (int tick = 5; tick > 0; tick--) {
                due("ticks left", x.stunned(0), tick);
                state("stunned", () -> x.pass(0, 1));
                x.idle(1);
            }
            due("at that tick not", x.stunned(0), 0);
            due("so it passes", x.pass(0, 1), RIGHT);
        });
        says("BOOST: it is not stunned any more.", () -> {
            Leaguewheel x = started(3);
            Cups.use(x, 2, SHELL);
            Cups.use(x, 1, SHELL);
            due("two are stunned", Cups.stuns(x), "550");
            due("none is hit", Cups.use(x, 1, BOOST), 0);
            due("one is not any more", Cups.stuns(x), "500");
            due("and passes", x.pass(1, 1), RIGHT);
            due("a kart that was not stunned", Cups.use(x, 1, BOOST), 0);
            Cups.use(x, 0, SHELL);
            due("is hit afterwards all the same", x.stunned(1), 5);
        });
        says("SHIELD: it is shielded.", () -> {
            Leaguewheel x = started(3);
            due("none is hit", Cups.use(x, 1, SHIELD), 0);
            x.idle(100);
            Cups.go(x, 1, 1, 0);
            Cups.go(x, 0, 1, 0);
            due("a shield lasts", Cups.use(x, 0, SHELL), 0);
            due("the shielded one is not stunned", Cups.stuns(x), "000");
            Leaguewheel stunned = started(3);
            Cups.use(stunned, 2, SHELL);
            Cups.use(stunned, 1, SHIELD);
            due("a shield ends no stun", stunned.stunned(1), 5);
        });
    }

    private void termsOfHits() {
        says("SHELL: the kart whose rank is 1 less is hit for 5 ticks.", () -> {
            Leaguewheel x = started(6);
            for (int kart = 5; kart > 0; kart--) {
                due("rank " + kart, Cups.use(x, kart, SHELL), 1);
                due("the next one", x.stunned(kart - 1), 5);
            }
            due("the last one is not", x.stunned(5), 0);
            due("rank 0 has none before it", Cups.use(x, 0, SHELL), 0);
            due("so nothing changes", Cups.stuns(x), "555550");
            Leaguewheel alone = started(1);
            due("one kart alone", Cups.use(alone, 0, SHELL), 0);
            due("does not hit itself", alone.stunned(0), 0);
        });
        says("BOLT: all karts with a lesser rank are hit for 2 ticks.", () -> {
            String[] stuns = {"222000", "222200", "222220"};
            for (int kart = 3; kart < 6; kart++) {
                Leaguewheel x = started(6);
                due("rank " + kart, Cups.use(x, kart, BOLT), kart);
                due("those ahead", Cups.stuns(x), stuns[kart - 3]);
            }
            Leaguewheel ranks = started(6);
            Cups.give(ranks, 3, BOLT);
            Cups.go(ranks, 3, 1);
            due("the rank when it is used, not when it was drawn", ranks.use(3), 0);
        });
        says("Karts that are finished are not hit.", () -> {
            Leaguewheel x = Cups.ring(5, 5);
            x.start(1);
            Cups.lap(x, 4);
            due("a shell on a finished one", Cups.use(x, 0, SHELL), 0);
            due("is lost", Cups.stuns(x), "00000");
            due("a bolt behind one finished and three others", Cups.use(x, 3, BOLT), 3);
            due("hits the others", Cups.stuns(x), "22200");
            x.idle(2);
            Cups.lap(x, 0);
            Cups.lap(x, 1);
            Cups.lap(x, 2);
            due("a bolt behind finished ones alone", Cups.use(x, 3, BOLT), 0);
            due("hits none", Cups.stuns(x), "00000");
        });
        says("A kart that is hit and shielded is not shielded any more;", () -> {
            Leaguewheel x = started(4);
            Cups.use(x, 2, SHIELD);
            Cups.use(x, 2, SHIELD);
            due("the first hit", Cups.use(x, 3, SHELL), 0);
            due("a shield upon a shield is one", Cups.use(x, 3, SHELL), 1);
            Cups.use(x, 0, SHIELD);
            due("a bolt takes a shield", Cups.use(x, 3, BOLT), 2);
            due("so the next one hits all", Cups.use(x, 3, BOLT), 3);
        });
        says("one that is not shielded is stunned for so many ticks from now on, or until it was stunned anyway, if"
                + " that is later.", () -> {
            Leaguewheel x = started(4);
            Cups.use(x, 3, SHELL);
            x.idle(2);
            Cups.use(x, 3, BOLT);
            due("3 are left, 2 are less", Cups.stuns(x), "2230");
            x.idle(1);
            Cups.use(x, 3, BOLT);
            due("2 are left, 2 are the same; 1 is left, 2 are more", Cups.stuns(x), "2220");
            Cups.use(x, 3, SHELL);
            due("2 are left, 5 are more, not 7", Cups.stuns(x), "2250");
            Cups.use(x, 3, SHELL);
            due("the same once more", Cups.stuns(x), "2250");
        });
    }

    private void setDraw() {
        part("Promise 18");
        says("Sets the number x from which items are drawn.", () -> {
            Leaguewheel x = Cups.ring(5, 4);
            x.setDraw(Cups.numberFor(2));
            x.start(1);
            due("set before a race", x.draw(3), SHELL);
            x.setDraw(Cups.numberFor(1));
            due("set in a race", x.draw(2), SHIELD);
            x.end();
            x.setDraw(Cups.numberFor(3));
            x.setDraw(Cups.numberFor(0));
            x.start(1);
            due("set between races, the last one counts", x.draw(0), SHIELD);
            int number = next(Cups.numberFor(0));
            x.end();
            x.start(1);
            due("it goes on from race to race", x.draw(3), Cups.itemsOfRank(3)[place(next(number))]);
        });
        says("- `x`: any int", () -> {
            int[] numbers = {0, 1, -1, 65535, 65536, -65536, Integer.MAX_VALUE, Integer.MIN_VALUE};
            for (int number : numbers) {
                Leaguewheel x = started(4);
                x.setDraw(number);
                due("from " + number, x.draw(3), Cups.itemsOfRank(3)[place(next(number))]);
            }
        });
    }

    private void draw() {
        part("Promise 19");
        says("Draws an item for a kart.", () -> {
            Leaguewheel x = started(2);
            int item = x.draw(1);
            due("it has it", x.itemOf(1), item);
            due("the other one has none", x.itemOf(0), NONE);
            Leaguewheel stunned = started(2);
            Cups.use(stunned, 1, SHELL);
            Cups.give(stunned, 0, SHELL);
            due("a stunned one, too", stunned.itemOf(0), SHELL);
        });
        says("- `kart`: a kart", () -> {
            Leaguewheel x = started(6);
            x.setDraw(Cups.numberFor(0));
            int number = Cups.numberFor(0);
            for (int kart = 0; kart < 6; kart++) {
                number = next(number);
                due("kart " + kart, x.draw(kart), Cups.itemsOfRank(kart)[place(number)]);
            }
        });
        says("Returns the item.", () -> {
            Leaguewheel x = started(4);
            for (int place = 0; place < 4; place++) {
                x.setDraw(Cups.numberFor(place));
                due("place " + place, x.draw(3), Cups.itemsOfRank(3)[place]);
                due("is the one that it has", x.itemOf(3), Cups.itemsOfRank(3)[place]);
                x.use(3);
            }
        });
        says("Throws `IndexOutOfBoundsException` if there is no such kart",
                () -> noSuchKart((x, kart) -> x.draw(kart)));
        says("Throws `IllegalStateException` if no race is on, or the kart is finished or has an item", () -> {
            onlyInARace((x, kart) -> x.draw(kart));
            Leaguewheel x = Cups.ring(5, 2);
            x.start(1);
            Cups.give(x, 0, BOOST);
            for (int place = 0; place < 4; place++) {
                x.setDraw(Cups.numberFor(place));
                state("it has an item", () -> x.draw(0));
            }
            due("which it keeps", x.itemOf(0), BOOST);
            Cups.lap(x, 1);
            state("finished, without an item", () -> x.draw(1));
            Cups.lap(x, 0);
            state("finished, with an item", () -> x.draw(0));
        });
    }

    private void use() {
        part("Promise 20");
        says("Lets a kart use its item, which it has no more then;", () -> {
            for (int item : new int[] {SHIELD, SHELL, BOOST}) {
                Leaguewheel x = started(2);
                Cups.give(x, 1, item);
                Cups.give(x, 0, SHIELD);
                x.use(1);
                due("used", x.itemOf(1), NONE);
                state("once only", () -> x.use(1));
                due("the other one has its own still", x.itemOf(0), SHIELD);
            }
            Leaguewheel x = started(4);
            due("a bolt", Cups.use(x, 3, BOLT), 3);
            due("is used, too", x.itemOf(3), NONE);
            Cups.use(x, 0, SHELL);
            due("and an item without effect", x.itemOf(0), NONE);
        });
        says("a stunned kart can do that, too.", () -> {
            Leaguewheel x = started(5);
            Cups.use(x, 4, BOLT);
            due("all but the last are stunned", Cups.stuns(x), "22220");
            due("a shell", Cups.use(x, 1, SHELL), 1);
            due("a shield", Cups.use(x, 2, SHIELD), 0);
            due("a bolt, one is shielded", Cups.use(x, 3, BOLT), 2);
            due("a boost", Cups.use(x, 3, BOOST), 0);
            due("what came of it", Cups.stuns(x), "52200");
        });
        says("- `kart`: a kart", () -> {
            Leaguewheel x = started(6);
            for (int kart = 0; kart < 6; kart++) {
                Cups.give(x, kart, SHELL);
            }
            for (int kart = 5; kart >= 0; kart--) {
                due("kart " + kart, x.use(kart), kart == 0 ? 0 : 1);
                due("its own item is used", x.itemOf(kart), NONE);
            }
        });
        says("Returns how many karts are hit that were not shielded.", () -> {
            Leaguewheel x = started(6);
            Cups.use(x, 0, SHIELD);
            Cups.use(x, 1, SHIELD);
            Cups.use(x, 2, SHIELD);
            for (int kart = 3; kart <= 4; kart++) {
                Cups.go(x, kart, 1, 0);
                Cups.use(x, kart, SHIELD);
            }
            due("five, all shielded", Cups.use(x, 5, BOLT), 0);
            due("none is stunned", Cups.stuns(x), "000000");
            due("five, none shielded", Cups.use(x, 5, BOLT), 5);
            due("all are stunned", Cups.stuns(x), "222220");
            due("five, stunned already", Cups.use(x, 5, BOLT), 5);
        });
        says("Throws `IndexOutOfBoundsException` if there is no such kart",
                () -> noSuchKart((x, kart) -> x.use(kart)));
        says("Throws `IllegalStateException` if no race is on, or the kart is finished or has no item", () -> {
            onlyInARace((x, kart) -> x.use(kart));
            Leaguewheel x = Cups.ring(5, 2);
            x.start(1);
            state("it never had one", () -> x.use(0));
            Cups.use(x, 0, SHIELD);
            state("it has used it", () -> x.use(0));
            Cups.give(x, 1, SHELL);
            Cups.lap(x, 1);
            state("finished, with an item", () -> x.use(1));
            due("which it keeps", x.itemOf(1), SHELL);
            Cups.lap(x, 0);
            state("finished, without one", () -> x.use(0));
            x.end();
            state("after the race", () -> x.use(1));
        });
    }

    private void itemOf() {
        part("Promise 21");
        says("Returns the item of a kart.", () -> {
            Leaguewheel x = started(4);
            for (int item : new int[] {BOLT, BOOST, SHELL}) {
                Cups.give(x, 3, item);
                due("drawn", x.itemOf(3), item);
                x.idle(100);
                Cups.use(x, 2, SHIELD);
                due("after time and others' items", x.itemOf(3), item);
                x.use(3);
            }
        });
        says("- `kart`: a kart", () -> {
            Leaguewheel x = started(6);
            int[] items = {SHIELD, BOOST, SHELL, BOLT, BOOST, SHELL};
            for (int kart = 0; kart < 6; kart++) {
                Cups.give(x, kart, items[kart]);
            }
            for (int kart = 0; kart < 6; kart++) {
                due("kart " + kart, x.itemOf(kart), items[kart]);
            }
        });
        says("Returns the item;", () -> {
            Leaguewheel x = Cups.ring(5, 1);
            x.start(1);
            Cups.give(x, 0, BOOST);
            due("0 is an item", x.itemOf(0), BOOST);
            Cups.lap(x, 0);
            due("a finished one has it still", x.itemOf(0), BOOST);
        });
        says("NONE if it has none, or no race is on.", () -> {
            Leaguewheel x = Cups.ring(5, 1);
            due("before a race", x.itemOf(0), NONE);
            x.start(1);
            due("none drawn", x.itemOf(0), NONE);
            Cups.use(x, 0, SHIELD);
            due("used", x.itemOf(0), NONE);
            Cups.give(x, 0, SHIELD);
            x.end();
            due("between races", x.itemOf(0), NONE);
            x.start(1);
            due("in the next race", x.itemOf(0), NONE);
        });
        says("Throws `IndexOutOfBoundsException` if there is no such kart",
                () -> noSuchKart((x, kart) -> x.itemOf(kart)));
    }

    private void stunned() {
        part("Promise 22");
        says("Returns for how many ticks from now on a kart is still stunned.", () -> {
            Leaguewheel x = started(4);
            x.idle(37);
            Cups.use(x, 3, SHELL);
            due("5 from now on", x.stunned(2), 5);
            x.idle(3);
            due("2 are left", x.stunned(2), 2);
            x.idle(100);
            due("long gone", x.stunned(2), 0);
            Cups.use(x, 3, BOLT);
            due("2 by a bolt", x.stunned(2), 2);
        });
        says("- `kart`: a kart", () -> {
            Leaguewheel x = started(6);
            Cups.use(x, 5, BOLT);
            Cups.use(x, 3, SHELL);
            Cups.use(x, 1, SHELL);
            Cups.use(x, 4, BOOST);
            int[] stuns = {5, 2, 5, 2, 0, 0};
            for (int kart = 0; kart < 6; kart++) {
                due("kart " + kart, x.stunned(kart), stuns[kart]);
            }
        });
        says("Returns 0 if it is not stunned, or no race is on.", () -> {
            Leaguewheel x = Cups.ring(5, 2);
            due("before a race", x.stunned(0), 0);
            x.start(1);
            due("not stunned", x.stunned(0), 0);
            Cups.use(x, 1, SHELL);
            x.end();
            due("after a race", x.stunned(0), 0);
            x.start(1);
            due("in the next race", x.stunned(0), 0);
        });
        says("Throws `IndexOutOfBoundsException` if there is no such kart",
                () -> noSuchKart((x, kart) -> x.stunned(kart)));
    }
}
